set_option maxRecDepth 100000 in
set_option maxHeartbeats 600000 in
/-- X4_paperShare -/
theorem c_X4_paperShare (l : Launch) (D : va_G) (cI cC cJ cG : ClassId) (sz : Nat) (ad : Nat → Nat) (u : ST) (v : HX) (x : CX) (hst : l.stackTraces = false) (hinv : Inv u) : kXf l yX4_paperShare wsX4_paperShare ({ frames := 6, cells := 1, slots := 6, locals := 90 }) D (kty cI cC cJ cG) [.ref (ad 0)] (wX cI cC ad u v x) sz 1 6 (fun (r : UInt32) (_ : Unit) => k_share u = 0 ∧ r = FP.fdiv (FP.l2f (s_pa u)) (FP.l2f (s_ma u))) (fun (_ : Unit) => wX cI cC ad u v x) (fun E => k_share u = 1 ∧ E = "java/lang/ArithmeticException") := by
  unfold kXf
  refine k_ofX (cc := cX4_paperShare) (maxL := 1) (ret := (some .float)) (lv := [(0, .ref (ad 0))]) (by decide) rfl (Nat.le_of_ble_eq_true rfl) rfl ?_
  intro p e s m args below meth c ls H locs hE hex hsz hZ hw hl
  obtain ⟨hx, hb, hr, hml, hown, hts, hlocks⟩ := hE
  subst hsz
  replace hw : kW D (kty cI cC cJ cG) s (va_A (wX cI cC ad u v x) s.heap.size) [(ad 0, .inr (6, [.ref (ad 1), .int (nI (s_gc u)), .int (nI (s_mw u)), .int (s_mg u), .int (s_ch u), .int (s_up u), .ref (ad 2), .ref (ad 7), .ref (ad 14), .ref (ad 15), .int (s_sh u), .int (s_bk u), .long (s_st u)])), (ad 1, .inl (cI, 6, .inl (s_we u))), (ad 2, .inr (5, [.ref (ad 3), .ref (ad 4), .ref (ad 5), .ref (ad 6), .int (nI (s_oc u))])), (ad 3, .inl (cI, 10, .inl (s_og u))), (ad 4, .inl (cI, 10, .inl (s_ow u))), (ad 5, .inl (cI, 10, .inl (s_ok u))), (ad 6, .inl (cI, 10, .inl (s_ol u))), (ad 7, .inr (3, [.ref (ad 8), .ref (ad 9), .ref (ad 10), .ref (ad 11), .ref (ad 12), .ref (ad 13), .int x.2.2.2.2.2.2.1, .int x.2.2.2.2.2.2.2])), (ad 8, .inl (cI, 10, .inl x.1)), (ad 9, .inl (cI, 10, .inl x.2.1)), (ad 10, .inl (cI, 10, .inl x.2.2.1)), (ad 11, .inl (cI, 10, .inl x.2.2.2.1)), (ad 12, .inl (cI, 10, .inl x.2.2.2.2.1)), (ad 13, .inl (cI, 801, .inl x.2.2.2.2.2.1)), (ad 14, .inr (2, [.int (s_li u), .int (s_fp u), .int (s_sp u)])), (ad 15, .inr (4, [.ref (ad 16), .ref (ad 17), .ref (ad 18), .ref (ad 19), .int (nI (s_hc u)), .long (s_fr u), .long (s_pa u), .long (s_lo u), .long (s_ma u), .long (Int32.toInt64 (s_tr u)), .int (s_ph u)])), (ad 16, .inl (cC, 400, .inl (s_kd u))), (ad 17, .inl (cI, 400, .inl v.1)), (ad 18, .inl (cI, 400, .inl v.2.1)), (ad 19, .inl (cI, 400, .inl v.2.2))] H locs := hw
  have hown : s.vm.findClass RX4 = some m.cls := hown
  have k_f48 : (Cond.fieldLink RX4 48 "PaperMachine" "hourBook" "LPaperMachine$HourBook;").before args s = true := hts _ (by decide +kernel)
  have k_f229 : (Cond.fieldLink RX4 229 "PaperMachine$HourBook" "massSum" "J").before args s = true := hts _ (by decide +kernel)
  have k_f213 : (Cond.fieldLink RX4 213 "PaperMachine$HourBook" "paperSum" "J").before args s = true := hts _ (by decide +kernel)
  have k_cl232 : (Cond.classLink RX4 232 "java/lang/ArithmeticException").before args s = true := hts _ (by decide +kernel)
  have k_ini232 : (Cond.initialized "java/lang/ArithmeticException").before args s = true := hts _ (by decide +kernel)
  have i_X4 : ∀ w ∈ u_ws RX4 TX4 13, w ∈ wsX4_paperShare := fun _ h => List.mem_cons_of_mem _ (List.mem_append_left _ (List.mem_append_left _ (List.mem_append_right _ h)))
  have i_X2 : ∀ w ∈ u_ws RX2 TX2 11, w ∈ wsX4_paperShare := fun _ h => List.mem_cons_of_mem _ (List.mem_append_left _ (List.mem_append_right _ h))
  obtain ⟨hgc, ⟨hmw1, hmw2⟩, hmg, hup, hch, hoc, hsh, hli, hfp, hsp, hhc, hph, htr, hma, hpa, hwe, how, hord, hol, hok⟩ := id hinv
  refine lv_aload_n hx hb dX4_paperShare_0 rfl (lv_at hl 0 rfl) ?_
  refine k_get hx hb hts i_X4 hown hw 0 9 rfl rfl (by decide) k_f48 rfl dX4_paperShare_1 ?_
  refine k_get hx hb hts i_X2 hown hw 15 8 rfl rfl (by decide) k_f229 rfl dX4_paperShare_4 ?_
  refine lv_lconst (v := 0) hx hb dX4_paperShare_7 rfl ?_
  refine W.lcmp hx hb dX4_paperShare_8 ?_
  refine lv_if_gt (tgt := 22) hx hb dX4_paperShare_9 (by decide) (fun c9 => ?_) (fun c9 => ?_)
  · have hmaL : (s_ma u).toInt.natAbs ≤ 2 ^ 24 := by omega
    have hpaL : (s_pa u).toInt.natAbs ≤ 2 ^ 24 := by omega
    have hm0 : 0 < s_ma u := (lg_cmp_gt _ _).mp c9
    have hmi : (s_ma u).toInt ≠ 0 := fun z => by have q := (fa_lt64 _ _).mp hm0; rw [z] at q; exact absurd q (by decide)
    refine lv_aload_n hx hb dX4_paperShare_22 rfl (lv_at hl 0 rfl) ?_
    refine k_get hx hb hts i_X4 hown hw 0 9 rfl rfl (by decide) k_f48 rfl dX4_paperShare_23 ?_
    refine k_get hx hb hts i_X2 hown hw 15 6 rfl rfl (by decide) k_f213 rfl dX4_paperShare_26 ?_
    refine lv_l2f hx hb dX4_paperShare_29 ?_
    refine lv_aload_n hx hb dX4_paperShare_30 rfl (lv_at hl 0 rfl) ?_
    refine k_get hx hb hts i_X4 hown hw 0 9 rfl rfl (by decide) k_f48 rfl dX4_paperShare_31 ?_
    refine k_get hx hb hts i_X2 hown hw 15 8 rfl rfl (by decide) k_f229 rfl dX4_paperShare_34 ?_
    refine lv_l2f hx hb dX4_paperShare_37 ?_
    refine lv_fdiv hx hb dX4_paperShare_38 (fl_fdiv hpaL hmaL hmi) ?_
    refine vx_ret ?_
    refine W.widen (k := 1) (n := 6) (by omega) (by omega) ?_
    exact k_fret () hx hb hr hlocks hw ⟨if_pos hm0, rfl⟩ dX4_paperShare_39
  · exact k_throw (text := "nothing was made") hx hb hst hown rfl hlocks hex (hl.1.trans hml.symm) (by decide +kernel) k_cl232 k_ini232 (fun _ h => hts _ (List.mem_cons_of_mem _ (List.mem_append_right _ h))) (by decide +kernel) (by decide +kernel) hZ hw (⟨if_neg (fun q => c9 ((lg_cmp_gt _ _).mpr q)), rfl⟩) (by decide +kernel) dX4_paperShare_12 dX4_paperShare_15 dX4_paperShare_16 dX4_paperShare_18 dX4_paperShare_21 (Nat.le_of_ble_eq_true rfl) (Nat.le_of_ble_eq_true rfl) (Nat.le_of_ble_eq_true rfl) (Nat.le_of_ble_eq_true rfl) (Nat.le_of_ble_eq_true rfl) (Nat.le_of_ble_eq_true rfl)

set_option maxRecDepth 100000 in
set_option maxHeartbeats 600000 in
/-- X4_meanTrim -/
theorem c_X4_meanTrim (l : Launch) (D : va_G) (cI cC cJ cG : ClassId) (sz : Nat) (ad : Nat → Nat) (u : ST) (v : HX) (x : CX) (hst : l.stackTraces = false) (hinv : Inv u) : kXd l yX4_meanTrim wsX4_meanTrim ({ frames := 6, cells := 1, slots := 6, locals := 90 }) D (kty cI cC cJ cG) [.ref (ad 0)] (wX cI cC ad u v x) sz 1 6 (fun (r : UInt64) (_ : Unit) => k_trim u = 0 ∧ r = FP.ddiv (FP.i2d (s_tr u)) (FP.i2d (s_ph u))) (fun (_ : Unit) => wX cI cC ad u v x) (fun E => k_trim u = 1 ∧ E = "java/lang/ArithmeticException") := by
  unfold kXd
  refine k_ofX (cc := cX4_meanTrim) (maxL := 1) (ret := (some .double)) (lv := [(0, .ref (ad 0))]) (by decide) rfl (Nat.le_of_ble_eq_true rfl) rfl ?_
  intro p e s m args below meth c ls H locs hE hex hsz hZ hw hl
  obtain ⟨hx, hb, hr, hml, hown, hts, hlocks⟩ := hE
  subst hsz
  replace hw : kW D (kty cI cC cJ cG) s (va_A (wX cI cC ad u v x) s.heap.size) [(ad 0, .inr (6, [.ref (ad 1), .int (nI (s_gc u)), .int (nI (s_mw u)), .int (s_mg u), .int (s_ch u), .int (s_up u), .ref (ad 2), .ref (ad 7), .ref (ad 14), .ref (ad 15), .int (s_sh u), .int (s_bk u), .long (s_st u)])), (ad 1, .inl (cI, 6, .inl (s_we u))), (ad 2, .inr (5, [.ref (ad 3), .ref (ad 4), .ref (ad 5), .ref (ad 6), .int (nI (s_oc u))])), (ad 3, .inl (cI, 10, .inl (s_og u))), (ad 4, .inl (cI, 10, .inl (s_ow u))), (ad 5, .inl (cI, 10, .inl (s_ok u))), (ad 6, .inl (cI, 10, .inl (s_ol u))), (ad 7, .inr (3, [.ref (ad 8), .ref (ad 9), .ref (ad 10), .ref (ad 11), .ref (ad 12), .ref (ad 13), .int x.2.2.2.2.2.2.1, .int x.2.2.2.2.2.2.2])), (ad 8, .inl (cI, 10, .inl x.1)), (ad 9, .inl (cI, 10, .inl x.2.1)), (ad 10, .inl (cI, 10, .inl x.2.2.1)), (ad 11, .inl (cI, 10, .inl x.2.2.2.1)), (ad 12, .inl (cI, 10, .inl x.2.2.2.2.1)), (ad 13, .inl (cI, 801, .inl x.2.2.2.2.2.1)), (ad 14, .inr (2, [.int (s_li u), .int (s_fp u), .int (s_sp u)])), (ad 15, .inr (4, [.ref (ad 16), .ref (ad 17), .ref (ad 18), .ref (ad 19), .int (nI (s_hc u)), .long (s_fr u), .long (s_pa u), .long (s_lo u), .long (s_ma u), .long (Int32.toInt64 (s_tr u)), .int (s_ph u)])), (ad 16, .inl (cC, 400, .inl (s_kd u))), (ad 17, .inl (cI, 400, .inl v.1)), (ad 18, .inl (cI, 400, .inl v.2.1)), (ad 19, .inl (cI, 400, .inl v.2.2))] H locs := hw
  have hown : s.vm.findClass RX4 = some m.cls := hown
  have k_f48 : (Cond.fieldLink RX4 48 "PaperMachine" "hourBook" "LPaperMachine$HourBook;").before args s = true := hts _ (by decide +kernel)
  have k_f237 : (Cond.fieldLink RX4 237 "PaperMachine$HourBook" "paperHours" "I").before args s = true := hts _ (by decide +kernel)
  have k_f242 : (Cond.fieldLink RX4 242 "PaperMachine$HourBook" "trimSum" "J").before args s = true := hts _ (by decide +kernel)
  have k_cl232 : (Cond.classLink RX4 232 "java/lang/ArithmeticException").before args s = true := hts _ (by decide +kernel)
  have k_ini232 : (Cond.initialized "java/lang/ArithmeticException").before args s = true := hts _ (by decide +kernel)
  have i_X4 : ∀ w ∈ u_ws RX4 TX4 13, w ∈ wsX4_meanTrim := fun _ h => List.mem_cons_of_mem _ (List.mem_append_left _ (List.mem_append_left _ (List.mem_append_right _ h)))
  have i_X2 : ∀ w ∈ u_ws RX2 TX2 11, w ∈ wsX4_meanTrim := fun _ h => List.mem_cons_of_mem _ (List.mem_append_left _ (List.mem_append_right _ h))
  obtain ⟨hgc, ⟨hmw1, hmw2⟩, hmg, hup, hch, hoc, hsh, hli, hfp, hsp, hhc, hph, htr, hma, hpa, hwe, how, hord, hol, hok⟩ := id hinv
  refine lv_aload_n hx hb dX4_meanTrim_0 rfl (lv_at hl 0 rfl) ?_
  refine k_get hx hb hts i_X4 hown hw 0 9 rfl rfl (by decide) k_f48 rfl dX4_meanTrim_1 ?_
  refine k_get hx hb hts i_X2 hown hw 15 10 rfl rfl (by decide) k_f237 rfl dX4_meanTrim_4 ?_
  refine lv_if_gt (tgt := 20) hx hb dX4_meanTrim_7 (by decide) (fun c7 => ?_) (fun c7 => ?_)
  · have hpi : (s_ph u).toInt ≠ 0 := fun z => by have q := (fa_lt _ _).mp c7; rw [z] at q; exact absurd q (by decide)
    refine lv_aload_n hx hb dX4_meanTrim_20 rfl (lv_at hl 0 rfl) ?_
    refine k_get hx hb hts i_X4 hown hw 0 9 rfl rfl (by decide) k_f48 rfl dX4_meanTrim_21 ?_
    refine k_get hx hb hts i_X2 hown hw 15 9 rfl rfl (by decide) k_f242 rfl dX4_meanTrim_24 ?_
    refine lv_l2d hx hb dX4_meanTrim_27 ?_
    refine lv_aload_n hx hb dX4_meanTrim_28 rfl (lv_at hl 0 rfl) ?_
    refine k_get hx hb hts i_X4 hown hw 0 9 rfl rfl (by decide) k_f48 rfl dX4_meanTrim_29 ?_
    refine k_get hx hb hts i_X2 hown hw 15 10 rfl rfl (by decide) k_f237 rfl dX4_meanTrim_32 ?_
    refine lv_i2d hx hb dX4_meanTrim_35 ?_
    refine lv_ddiv hx hb dX4_meanTrim_36 (by rw [fl_l2d]; exact fl_ddiv hpi) ?_
    refine vx_ret ?_
    refine W.widen (k := 1) (n := 6) (by omega) (by omega) ?_
    exact k_dret () hx hb hr hlocks hw ⟨if_pos c7, by rw [fl_l2d]⟩ dX4_meanTrim_37
  · exact k_throw (text := "no hour made paper") hx hb hst hown rfl hlocks hex (hl.1.trans hml.symm) (by decide +kernel) k_cl232 k_ini232 (fun _ h => hts _ (List.mem_cons_of_mem _ (List.mem_append_right _ h))) (by decide +kernel) (by decide +kernel) hZ hw (⟨if_neg c7, rfl⟩) (by decide +kernel) dX4_meanTrim_10 dX4_meanTrim_13 dX4_meanTrim_14 dX4_meanTrim_16 dX4_meanTrim_19 (Nat.le_of_ble_eq_true rfl) (Nat.le_of_ble_eq_true rfl) (Nat.le_of_ble_eq_true rfl) (Nat.le_of_ble_eq_true rfl) (Nat.le_of_ble_eq_true rfl) (Nat.le_of_ble_eq_true rfl)

set_option maxRecDepth 100000 in
set_option maxHeartbeats 600000 in
/-- X5_paperShare -/
theorem c_X5_paperShare (l : Launch) (D : va_G) (cI cC cJ cG : ClassId) (sz : Nat) (bd : Nat → Nat) (u : ST) (y : MX) (hinv : Inv u) : kMf l yX5_paperShare wsX5_paperShare ({ frames := 1, cells := 0, slots := 0, locals := 21 }) D (kty cI cC cJ cG) [.ref (bd 0)] (wM cI cC bd u y) sz 0 0 (fun (r : UInt32) (y2 : MX) => y2.1 = k_share u ∧ (k_share u = 0 → r = FP.fdiv (FP.l2f (s_pa u)) (FP.l2f (s_ma u)))) (fun (y2 : MX) => wM cI cC bd u y2) := by
  unfold kMf
  refine k_ofW (cc := cX5_paperShare) (maxL := 1) (ret := (some .float)) (lv := [(0, .ref (bd 0))]) (by decide) rfl (Nat.le_of_ble_eq_true rfl) rfl ?_
  intro p e s m args below meth c ls H locs hE hsz hw hl
  obtain ⟨hx, hb, hr, hml, hown, hts, hlocks⟩ := hE
  subst hsz
  replace hw : kW D (kty cI cC cJ cG) s (va_A (wM cI cC bd u y) s.heap.size) [(bd 0, .inr (7, [.int y.1, .int (nI (s_gc u)), .ref (bd 1), .int (nI (s_mw u)), .int (s_mg u), .int (s_up u), .int (s_ch u), .int (nI (s_oc u)), .ref (bd 2), .ref (bd 3), .ref (bd 4), .ref (bd 5), .int (s_sh u), .int (s_li u), .int (s_fp u), .int (s_sp u), .int (nI (s_hc u)), .ref (bd 6), .int (s_bk u), .long (s_fr u), .long (s_pa u), .long (s_lo u), .long (s_st u), .long (s_ma u), .int (s_ph u), .int (s_tr u), .int y.2.1, .ref (bd 7), .ref (bd 8)])), (bd 1, .inl (cI, 6, .inl (s_we u))), (bd 2, .inl (cI, 10, .inl (s_og u))), (bd 3, .inl (cI, 10, .inl (s_ow u))), (bd 4, .inl (cI, 10, .inl (s_ol u))), (bd 5, .inl (cI, 10, .inl (s_ok u))), (bd 6, .inl (cC, 400, .inl (s_kd u))), (bd 7, .inl (cI, 10, .inl y.2.2.1)), (bd 8, .inl (cI, 10, .inl y.2.2.2))] H locs := hw
  have hown : s.vm.findClass RX5 = some m.cls := hown
  have k_f124 : (Cond.fieldLink RX5 124 "PaperMachineModel" "mass" "J").before args s = true := hts _ (by decide +kernel)
  have k_f118 : (Cond.fieldLink RX5 118 "PaperMachineModel" "paper" "J").before args s = true := hts _ (by decide +kernel)
  have i_X5 : ∀ w ∈ u_ws RX5 TX5 29, w ∈ wsX5_paperShare := fun _ h => List.mem_cons_of_mem _ (List.mem_append_right _ h)
  obtain ⟨hgc, ⟨hmw1, hmw2⟩, hmg, hup, hch, hoc, hsh, hli, hfp, hsp, hhc, hph, htr, hma, hpa, hwe, how, hord, hol, hok⟩ := id hinv
  refine lv_aload_n hx hb dX5_paperShare_0 rfl (lv_at hl 0 rfl) ?_
  refine lv_aload_n hx hb dX5_paperShare_1 rfl (lv_at hl 0 rfl) ?_
  refine k_get hx hb hts i_X5 hown hw 0 23 rfl rfl (by decide) k_f124 rfl dX5_paperShare_2 ?_
  refine lv_lconst (v := 0) hx hb dX5_paperShare_5 rfl ?_
  refine W.lcmp hx hb dX5_paperShare_6 ?_
  refine lv_if_ne (tgt := 14) hx hb dX5_paperShare_7 (by decide) (fun c7 => ?_) (fun c7 => ?_)
  · have hmaL : (s_ma u).toInt.natAbs ≤ 2 ^ 24 := by omega
    have hpaL : (s_pa u).toInt.natAbs ≤ 2 ^ 24 := by omega
    have hmi : (s_ma u).toInt ≠ 0 := fun z => c7 ((lg_cmp_eq _ _).mpr (Int64.toInt.inj z))
    have hm0 : 0 < s_ma u := (fa_lt64 _ _).mpr (show (0 : Int) < (s_ma u).toInt by omega)
    refine lv_iconst (v := 0) hx hb dX5_paperShare_14 (by decide) ?_
    have ec : k_share u = 0 := if_pos hm0
    refine k_calli (wr := [(bd 1, .inl (cI, 6, .inl (s_we u))), (bd 2, .inl (cI, 10, .inl (s_og u))), (bd 3, .inl (cI, 10, .inl (s_ow u))), (bd 4, .inl (cI, 10, .inl (s_ol u))), (bd 5, .inl (cI, 10, .inl (s_ok u))), (bd 6, .inl (cC, 400, .inl (s_kd u))), (bd 7, .inl (cI, 10, .inl y.2.2.1)), (bd 8, .inl (cI, 10, .inl y.2.2.2))]) (k_runV (wc := [(bd 0, .inr (7, [.int y.1, .int (nI (s_gc u)), .ref (bd 1), .int (nI (s_mw u)), .int (s_mg u), .int (s_up u), .int (s_ch u), .int (nI (s_oc u)), .ref (bd 2), .ref (bd 3), .ref (bd 4), .ref (bd 5), .int (s_sh u), .int (s_li u), .int (s_fp u), .int (s_sp u), .int (nI (s_hc u)), .ref (bd 6), .int (s_bk u), .long (s_fr u), .long (s_pa u), .long (s_lo u), .long (s_st u), .long (s_ma u), .int (s_ph u), .int (s_tr u), .int y.2.1, .ref (bd 7), .ref (bd 8)]))]) (As := [.int 0]) (rest := []) ⟨hx, hb, hml, hown, hts⟩ (c_X5_goesOn l D cI cC cJ cG (bd 0) H.size (bd 1) (bd 2) (bd 3) (bd 4) (bd 5) (bd 6) (bd 7) (bd 8) y.1 (s_gc u) (s_mw u) (s_mg u) (s_up u) (s_ch u) (s_oc u) (s_sh u) (s_li u) (s_fp u) (s_sp u) (s_hc u) (s_bk u) (s_fr u) (s_pa u) (s_lo u) (s_st u) (s_ma u) (s_ph u) (s_tr u) y.2.1 0) (cwV 1 hts gX5_paperShare_X5_goesOn rfl rfl rfl (by decide +kernel) ⟨Nat.le_of_ble_eq_true rfl, Nat.le_of_ble_eq_true rfl⟩) hw [0] (by decide) rfl 0 rfl rfl rfl hl.1 rfl (Nat.le_of_ble_eq_true rfl) dX5_paperShare_15 ⟨Nat.zero_le _, Nat.zero_le _⟩) hw [0] [1, 2, 3, 4, 5, 6, 7, 8] rfl rfl (by decide) (by decide) (fun r15 u15 H locs w15 hw => ?_)
    replace hw : kW D (kty cI cC cJ cG) s (va_A (wM cI cC bd u y) s.heap.size) [(bd 1, .inl (cI, 6, .inl (s_we u))), (bd 2, .inl (cI, 10, .inl (s_og u))), (bd 3, .inl (cI, 10, .inl (s_ow u))), (bd 4, .inl (cI, 10, .inl (s_ol u))), (bd 5, .inl (cI, 10, .inl (s_ok u))), (bd 6, .inl (cC, 400, .inl (s_kd u))), (bd 7, .inl (cI, 10, .inl y.2.2.1)), (bd 8, .inl (cI, 10, .inl y.2.2.2)), (bd 0, .inr (7, [.int 0, .int (nI (s_gc u)), .ref (bd 1), .int (nI (s_mw u)), .int (s_mg u), .int (s_up u), .int (s_ch u), .int (nI (s_oc u)), .ref (bd 2), .ref (bd 3), .ref (bd 4), .ref (bd 5), .int (s_sh u), .int (s_li u), .int (s_fp u), .int (s_sp u), .int (nI (s_hc u)), .ref (bd 6), .int (s_bk u), .long (s_fr u), .long (s_pa u), .long (s_lo u), .long (s_st u), .long (s_ma u), .int (s_ph u), .int (s_tr u), .int y.2.1, .ref (bd 7), .ref (bd 8)]))] H locs := hw
    replace w15 : r15 = if 0 = (0 : Int32) then 1 else 0 := w15
    by_cases b15 : 0 = (0 : Int32)
    · rw [if_pos b15] at w15
      subst w15
      refine lv_if_eq (tgt := 35) hx hb dX5_paperShare_18 (by decide) (fun h => absurd h (by decide)) (fun _ => ?_)
      refine lv_aload_n hx hb dX5_paperShare_21 rfl (lv_at hl 0 rfl) ?_
      refine k_get hx hb hts i_X5 hown hw 8 20 rfl rfl (by decide) k_f118 rfl dX5_paperShare_22 ?_
      refine lv_l2f hx hb dX5_paperShare_25 ?_
      refine lv_aload_n hx hb dX5_paperShare_26 rfl (lv_at hl 0 rfl) ?_
      refine k_get hx hb hts i_X5 hown hw 8 23 rfl rfl (by decide) k_f124 rfl dX5_paperShare_27 ?_
      refine lv_l2f hx hb dX5_paperShare_30 ?_
      refine lv_fdiv hx hb dX5_paperShare_31 (fl_fdiv hpaL hmaL hmi) ?_
      refine lv_goto (tgt := 36) hx hb dX5_paperShare_32 (by decide) ?_
      replace hw := hw.pick (ws' := [(bd 0, .inr (7, [.int 0, .int (nI (s_gc u)), .ref (bd 1), .int (nI (s_mw u)), .int (s_mg u), .int (s_up u), .int (s_ch u), .int (nI (s_oc u)), .ref (bd 2), .ref (bd 3), .ref (bd 4), .ref (bd 5), .int (s_sh u), .int (s_li u), .int (s_fp u), .int (s_sp u), .int (nI (s_hc u)), .ref (bd 6), .int (s_bk u), .long (s_fr u), .long (s_pa u), .long (s_lo u), .long (s_st u), .long (s_ma u), .int (s_ph u), .int (s_tr u), .int y.2.1, .ref (bd 7), .ref (bd 8)])), (bd 1, .inl (cI, 6, .inl (s_we u))), (bd 2, .inl (cI, 10, .inl (s_og u))), (bd 3, .inl (cI, 10, .inl (s_ow u))), (bd 4, .inl (cI, 10, .inl (s_ol u))), (bd 5, .inl (cI, 10, .inl (s_ok u))), (bd 6, .inl (cC, 400, .inl (s_kd u))), (bd 7, .inl (cI, 10, .inl y.2.2.1)), (bd 8, .inl (cI, 10, .inl y.2.2.2))]) [8, 0, 1, 2, 3, 4, 5, 6, 7] (by decide) rfl
      exact k_fret (0, y.2.1, y.2.2.1, y.2.2.2) hx hb hr hlocks hw ⟨ec.symm, fun _ => rfl⟩ dX5_paperShare_36
    · rw [if_neg b15] at w15
      subst w15
      exact absurd rfl b15
  · refine lv_iconst (v := 1) hx hb dX5_paperShare_10 (by decide) ?_
    refine lv_goto (tgt := 15) hx hb dX5_paperShare_11 (by decide) ?_
    have ec : k_share u = 1 := if_neg (fun q => by rw [(lg_cmp_eq _ _).mp c7] at q; exact absurd q (by decide))
    refine k_calli (wr := [(bd 1, .inl (cI, 6, .inl (s_we u))), (bd 2, .inl (cI, 10, .inl (s_og u))), (bd 3, .inl (cI, 10, .inl (s_ow u))), (bd 4, .inl (cI, 10, .inl (s_ol u))), (bd 5, .inl (cI, 10, .inl (s_ok u))), (bd 6, .inl (cC, 400, .inl (s_kd u))), (bd 7, .inl (cI, 10, .inl y.2.2.1)), (bd 8, .inl (cI, 10, .inl y.2.2.2))]) (k_runV (wc := [(bd 0, .inr (7, [.int y.1, .int (nI (s_gc u)), .ref (bd 1), .int (nI (s_mw u)), .int (s_mg u), .int (s_up u), .int (s_ch u), .int (nI (s_oc u)), .ref (bd 2), .ref (bd 3), .ref (bd 4), .ref (bd 5), .int (s_sh u), .int (s_li u), .int (s_fp u), .int (s_sp u), .int (nI (s_hc u)), .ref (bd 6), .int (s_bk u), .long (s_fr u), .long (s_pa u), .long (s_lo u), .long (s_st u), .long (s_ma u), .int (s_ph u), .int (s_tr u), .int y.2.1, .ref (bd 7), .ref (bd 8)]))]) (As := [.int 1]) (rest := []) ⟨hx, hb, hml, hown, hts⟩ (c_X5_goesOn l D cI cC cJ cG (bd 0) H.size (bd 1) (bd 2) (bd 3) (bd 4) (bd 5) (bd 6) (bd 7) (bd 8) y.1 (s_gc u) (s_mw u) (s_mg u) (s_up u) (s_ch u) (s_oc u) (s_sh u) (s_li u) (s_fp u) (s_sp u) (s_hc u) (s_bk u) (s_fr u) (s_pa u) (s_lo u) (s_st u) (s_ma u) (s_ph u) (s_tr u) y.2.1 1) (cwV 1 hts gX5_paperShare_X5_goesOn rfl rfl rfl (by decide +kernel) ⟨Nat.le_of_ble_eq_true rfl, Nat.le_of_ble_eq_true rfl⟩) hw [0] (by decide) rfl 0 rfl rfl rfl hl.1 rfl (Nat.le_of_ble_eq_true rfl) dX5_paperShare_15 ⟨Nat.zero_le _, Nat.zero_le _⟩) hw [0] [1, 2, 3, 4, 5, 6, 7, 8] rfl rfl (by decide) (by decide) (fun r15 u15 H locs w15 hw => ?_)
    replace hw : kW D (kty cI cC cJ cG) s (va_A (wM cI cC bd u y) s.heap.size) [(bd 1, .inl (cI, 6, .inl (s_we u))), (bd 2, .inl (cI, 10, .inl (s_og u))), (bd 3, .inl (cI, 10, .inl (s_ow u))), (bd 4, .inl (cI, 10, .inl (s_ol u))), (bd 5, .inl (cI, 10, .inl (s_ok u))), (bd 6, .inl (cC, 400, .inl (s_kd u))), (bd 7, .inl (cI, 10, .inl y.2.2.1)), (bd 8, .inl (cI, 10, .inl y.2.2.2)), (bd 0, .inr (7, [.int 1, .int (nI (s_gc u)), .ref (bd 1), .int (nI (s_mw u)), .int (s_mg u), .int (s_up u), .int (s_ch u), .int (nI (s_oc u)), .ref (bd 2), .ref (bd 3), .ref (bd 4), .ref (bd 5), .int (s_sh u), .int (s_li u), .int (s_fp u), .int (s_sp u), .int (nI (s_hc u)), .ref (bd 6), .int (s_bk u), .long (s_fr u), .long (s_pa u), .long (s_lo u), .long (s_st u), .long (s_ma u), .int (s_ph u), .int (s_tr u), .int y.2.1, .ref (bd 7), .ref (bd 8)]))] H locs := hw
    replace w15 : r15 = if 1 = (0 : Int32) then 1 else 0 := w15
    by_cases b15 : 1 = (0 : Int32)
    · rw [if_pos b15] at w15
      subst w15
      exact absurd b15 (by decide)
    · rw [if_neg b15] at w15
      subst w15
      refine lv_if_eq (tgt := 35) hx hb dX5_paperShare_18 (by decide) (fun _ => ?_) (fun h => absurd h (by decide))
      refine lv_fconst0 hx hb dX5_paperShare_35 ?_
      replace hw := hw.pick (ws' := [(bd 0, .inr (7, [.int 1, .int (nI (s_gc u)), .ref (bd 1), .int (nI (s_mw u)), .int (s_mg u), .int (s_up u), .int (s_ch u), .int (nI (s_oc u)), .ref (bd 2), .ref (bd 3), .ref (bd 4), .ref (bd 5), .int (s_sh u), .int (s_li u), .int (s_fp u), .int (s_sp u), .int (nI (s_hc u)), .ref (bd 6), .int (s_bk u), .long (s_fr u), .long (s_pa u), .long (s_lo u), .long (s_st u), .long (s_ma u), .int (s_ph u), .int (s_tr u), .int y.2.1, .ref (bd 7), .ref (bd 8)])), (bd 1, .inl (cI, 6, .inl (s_we u))), (bd 2, .inl (cI, 10, .inl (s_og u))), (bd 3, .inl (cI, 10, .inl (s_ow u))), (bd 4, .inl (cI, 10, .inl (s_ol u))), (bd 5, .inl (cI, 10, .inl (s_ok u))), (bd 6, .inl (cC, 400, .inl (s_kd u))), (bd 7, .inl (cI, 10, .inl y.2.2.1)), (bd 8, .inl (cI, 10, .inl y.2.2.2))]) [8, 0, 1, 2, 3, 4, 5, 6, 7] (by decide) rfl
      exact k_fret (1, y.2.1, y.2.2.1, y.2.2.2) hx hb hr hlocks hw ⟨ec.symm, fun h => absurd (ec.symm.trans h) (by decide)⟩ dX5_paperShare_36

set_option maxRecDepth 100000 in
set_option maxHeartbeats 600000 in
/-- X5_meanTrim -/
theorem c_X5_meanTrim (l : Launch) (D : va_G) (cI cC cJ cG : ClassId) (sz : Nat) (bd : Nat → Nat) (u : ST) (y : MX) (hinv : Inv u) : kMd l yX5_meanTrim wsX5_meanTrim ({ frames := 1, cells := 0, slots := 0, locals := 21 }) D (kty cI cC cJ cG) [.ref (bd 0)] (wM cI cC bd u y) sz 0 0 (fun (r : UInt64) (y2 : MX) => y2.1 = k_trim u ∧ (k_trim u = 0 → r = FP.ddiv (FP.i2d (s_tr u)) (FP.i2d (s_ph u)))) (fun (y2 : MX) => wM cI cC bd u y2) := by
  unfold kMd
  refine k_ofW (cc := cX5_meanTrim) (maxL := 1) (ret := (some .double)) (lv := [(0, .ref (bd 0))]) (by decide) rfl (Nat.le_of_ble_eq_true rfl) rfl ?_
  intro p e s m args below meth c ls H locs hE hsz hw hl
  obtain ⟨hx, hb, hr, hml, hown, hts, hlocks⟩ := hE
  subst hsz
  replace hw : kW D (kty cI cC cJ cG) s (va_A (wM cI cC bd u y) s.heap.size) [(bd 0, .inr (7, [.int y.1, .int (nI (s_gc u)), .ref (bd 1), .int (nI (s_mw u)), .int (s_mg u), .int (s_up u), .int (s_ch u), .int (nI (s_oc u)), .ref (bd 2), .ref (bd 3), .ref (bd 4), .ref (bd 5), .int (s_sh u), .int (s_li u), .int (s_fp u), .int (s_sp u), .int (nI (s_hc u)), .ref (bd 6), .int (s_bk u), .long (s_fr u), .long (s_pa u), .long (s_lo u), .long (s_st u), .long (s_ma u), .int (s_ph u), .int (s_tr u), .int y.2.1, .ref (bd 7), .ref (bd 8)])), (bd 1, .inl (cI, 6, .inl (s_we u))), (bd 2, .inl (cI, 10, .inl (s_og u))), (bd 3, .inl (cI, 10, .inl (s_ow u))), (bd 4, .inl (cI, 10, .inl (s_ol u))), (bd 5, .inl (cI, 10, .inl (s_ok u))), (bd 6, .inl (cC, 400, .inl (s_kd u))), (bd 7, .inl (cI, 10, .inl y.2.2.1)), (bd 8, .inl (cI, 10, .inl y.2.2.2))] H locs := hw
  have hown : s.vm.findClass RX5 = some m.cls := hown
  have k_f133 : (Cond.fieldLink RX5 133 "PaperMachineModel" "paperHours" "I").before args s = true := hts _ (by decide +kernel)
  have k_f136 : (Cond.fieldLink RX5 136 "PaperMachineModel" "trims" "I").before args s = true := hts _ (by decide +kernel)
  have i_X5 : ∀ w ∈ u_ws RX5 TX5 29, w ∈ wsX5_meanTrim := fun _ h => List.mem_cons_of_mem _ (List.mem_append_right _ h)
  obtain ⟨hgc, ⟨hmw1, hmw2⟩, hmg, hup, hch, hoc, hsh, hli, hfp, hsp, hhc, hph, htr, hma, hpa, hwe, how, hord, hol, hok⟩ := id hinv
  refine lv_aload_n hx hb dX5_meanTrim_0 rfl (lv_at hl 0 rfl) ?_
  refine lv_aload_n hx hb dX5_meanTrim_1 rfl (lv_at hl 0 rfl) ?_
  refine k_get hx hb hts i_X5 hown hw 0 24 rfl rfl (by decide) k_f133 rfl dX5_meanTrim_2 ?_
  refine lv_if_ne (tgt := 12) hx hb dX5_meanTrim_5 (by decide) (fun c5 => ?_) (fun c5 => ?_)
  · have hpi : (s_ph u).toInt ≠ 0 := fun z => c5 (Int32.toInt.inj z)
    have hp0 : 0 < s_ph u := (fa_lt _ _).mpr (show (0 : Int) < (s_ph u).toInt by omega)
    refine lv_iconst (v := 0) hx hb dX5_meanTrim_12 (by decide) ?_
    have ec : k_trim u = 0 := if_pos hp0
    refine k_calli (wr := [(bd 1, .inl (cI, 6, .inl (s_we u))), (bd 2, .inl (cI, 10, .inl (s_og u))), (bd 3, .inl (cI, 10, .inl (s_ow u))), (bd 4, .inl (cI, 10, .inl (s_ol u))), (bd 5, .inl (cI, 10, .inl (s_ok u))), (bd 6, .inl (cC, 400, .inl (s_kd u))), (bd 7, .inl (cI, 10, .inl y.2.2.1)), (bd 8, .inl (cI, 10, .inl y.2.2.2))]) (k_runV (wc := [(bd 0, .inr (7, [.int y.1, .int (nI (s_gc u)), .ref (bd 1), .int (nI (s_mw u)), .int (s_mg u), .int (s_up u), .int (s_ch u), .int (nI (s_oc u)), .ref (bd 2), .ref (bd 3), .ref (bd 4), .ref (bd 5), .int (s_sh u), .int (s_li u), .int (s_fp u), .int (s_sp u), .int (nI (s_hc u)), .ref (bd 6), .int (s_bk u), .long (s_fr u), .long (s_pa u), .long (s_lo u), .long (s_st u), .long (s_ma u), .int (s_ph u), .int (s_tr u), .int y.2.1, .ref (bd 7), .ref (bd 8)]))]) (As := [.int 0]) (rest := []) ⟨hx, hb, hml, hown, hts⟩ (c_X5_goesOn l D cI cC cJ cG (bd 0) H.size (bd 1) (bd 2) (bd 3) (bd 4) (bd 5) (bd 6) (bd 7) (bd 8) y.1 (s_gc u) (s_mw u) (s_mg u) (s_up u) (s_ch u) (s_oc u) (s_sh u) (s_li u) (s_fp u) (s_sp u) (s_hc u) (s_bk u) (s_fr u) (s_pa u) (s_lo u) (s_st u) (s_ma u) (s_ph u) (s_tr u) y.2.1 0) (cwV 1 hts gX5_meanTrim_X5_goesOn rfl rfl rfl (by decide +kernel) ⟨Nat.le_of_ble_eq_true rfl, Nat.le_of_ble_eq_true rfl⟩) hw [0] (by decide) rfl 0 rfl rfl rfl hl.1 rfl (Nat.le_of_ble_eq_true rfl) dX5_meanTrim_13 ⟨Nat.zero_le _, Nat.zero_le _⟩) hw [0] [1, 2, 3, 4, 5, 6, 7, 8] rfl rfl (by decide) (by decide) (fun r13 u13 H locs w13 hw => ?_)
    replace hw : kW D (kty cI cC cJ cG) s (va_A (wM cI cC bd u y) s.heap.size) [(bd 1, .inl (cI, 6, .inl (s_we u))), (bd 2, .inl (cI, 10, .inl (s_og u))), (bd 3, .inl (cI, 10, .inl (s_ow u))), (bd 4, .inl (cI, 10, .inl (s_ol u))), (bd 5, .inl (cI, 10, .inl (s_ok u))), (bd 6, .inl (cC, 400, .inl (s_kd u))), (bd 7, .inl (cI, 10, .inl y.2.2.1)), (bd 8, .inl (cI, 10, .inl y.2.2.2)), (bd 0, .inr (7, [.int 0, .int (nI (s_gc u)), .ref (bd 1), .int (nI (s_mw u)), .int (s_mg u), .int (s_up u), .int (s_ch u), .int (nI (s_oc u)), .ref (bd 2), .ref (bd 3), .ref (bd 4), .ref (bd 5), .int (s_sh u), .int (s_li u), .int (s_fp u), .int (s_sp u), .int (nI (s_hc u)), .ref (bd 6), .int (s_bk u), .long (s_fr u), .long (s_pa u), .long (s_lo u), .long (s_st u), .long (s_ma u), .int (s_ph u), .int (s_tr u), .int y.2.1, .ref (bd 7), .ref (bd 8)]))] H locs := hw
    replace w13 : r13 = if 0 = (0 : Int32) then 1 else 0 := w13
    by_cases b13 : 0 = (0 : Int32)
    · rw [if_pos b13] at w13
      subst w13
      refine lv_if_eq (tgt := 33) hx hb dX5_meanTrim_16 (by decide) (fun h => absurd h (by decide)) (fun _ => ?_)
      refine lv_aload_n hx hb dX5_meanTrim_19 rfl (lv_at hl 0 rfl) ?_
      refine k_get hx hb hts i_X5 hown hw 8 25 rfl rfl (by decide) k_f136 rfl dX5_meanTrim_20 ?_
      refine lv_i2d hx hb dX5_meanTrim_23 ?_
      refine lv_aload_n hx hb dX5_meanTrim_24 rfl (lv_at hl 0 rfl) ?_
      refine k_get hx hb hts i_X5 hown hw 8 24 rfl rfl (by decide) k_f133 rfl dX5_meanTrim_25 ?_
      refine lv_i2d hx hb dX5_meanTrim_28 ?_
      refine lv_ddiv hx hb dX5_meanTrim_29 (fl_ddiv hpi) ?_
      refine lv_goto (tgt := 34) hx hb dX5_meanTrim_30 (by decide) ?_
      replace hw := hw.pick (ws' := [(bd 0, .inr (7, [.int 0, .int (nI (s_gc u)), .ref (bd 1), .int (nI (s_mw u)), .int (s_mg u), .int (s_up u), .int (s_ch u), .int (nI (s_oc u)), .ref (bd 2), .ref (bd 3), .ref (bd 4), .ref (bd 5), .int (s_sh u), .int (s_li u), .int (s_fp u), .int (s_sp u), .int (nI (s_hc u)), .ref (bd 6), .int (s_bk u), .long (s_fr u), .long (s_pa u), .long (s_lo u), .long (s_st u), .long (s_ma u), .int (s_ph u), .int (s_tr u), .int y.2.1, .ref (bd 7), .ref (bd 8)])), (bd 1, .inl (cI, 6, .inl (s_we u))), (bd 2, .inl (cI, 10, .inl (s_og u))), (bd 3, .inl (cI, 10, .inl (s_ow u))), (bd 4, .inl (cI, 10, .inl (s_ol u))), (bd 5, .inl (cI, 10, .inl (s_ok u))), (bd 6, .inl (cC, 400, .inl (s_kd u))), (bd 7, .inl (cI, 10, .inl y.2.2.1)), (bd 8, .inl (cI, 10, .inl y.2.2.2))]) [8, 0, 1, 2, 3, 4, 5, 6, 7] (by decide) rfl
      exact k_dret (0, y.2.1, y.2.2.1, y.2.2.2) hx hb hr hlocks hw ⟨ec.symm, fun _ => rfl⟩ dX5_meanTrim_34
    · rw [if_neg b13] at w13
      subst w13
      exact absurd rfl b13
  · refine lv_iconst (v := 1) hx hb dX5_meanTrim_8 (by decide) ?_
    refine lv_goto (tgt := 13) hx hb dX5_meanTrim_9 (by decide) ?_
    have ec : k_trim u = 1 := if_neg (fun q => by rw [c5] at q; exact absurd q (by decide))
    refine k_calli (wr := [(bd 1, .inl (cI, 6, .inl (s_we u))), (bd 2, .inl (cI, 10, .inl (s_og u))), (bd 3, .inl (cI, 10, .inl (s_ow u))), (bd 4, .inl (cI, 10, .inl (s_ol u))), (bd 5, .inl (cI, 10, .inl (s_ok u))), (bd 6, .inl (cC, 400, .inl (s_kd u))), (bd 7, .inl (cI, 10, .inl y.2.2.1)), (bd 8, .inl (cI, 10, .inl y.2.2.2))]) (k_runV (wc := [(bd 0, .inr (7, [.int y.1, .int (nI (s_gc u)), .ref (bd 1), .int (nI (s_mw u)), .int (s_mg u), .int (s_up u), .int (s_ch u), .int (nI (s_oc u)), .ref (bd 2), .ref (bd 3), .ref (bd 4), .ref (bd 5), .int (s_sh u), .int (s_li u), .int (s_fp u), .int (s_sp u), .int (nI (s_hc u)), .ref (bd 6), .int (s_bk u), .long (s_fr u), .long (s_pa u), .long (s_lo u), .long (s_st u), .long (s_ma u), .int (s_ph u), .int (s_tr u), .int y.2.1, .ref (bd 7), .ref (bd 8)]))]) (As := [.int 1]) (rest := []) ⟨hx, hb, hml, hown, hts⟩ (c_X5_goesOn l D cI cC cJ cG (bd 0) H.size (bd 1) (bd 2) (bd 3) (bd 4) (bd 5) (bd 6) (bd 7) (bd 8) y.1 (s_gc u) (s_mw u) (s_mg u) (s_up u) (s_ch u) (s_oc u) (s_sh u) (s_li u) (s_fp u) (s_sp u) (s_hc u) (s_bk u) (s_fr u) (s_pa u) (s_lo u) (s_st u) (s_ma u) (s_ph u) (s_tr u) y.2.1 1) (cwV 1 hts gX5_meanTrim_X5_goesOn rfl rfl rfl (by decide +kernel) ⟨Nat.le_of_ble_eq_true rfl, Nat.le_of_ble_eq_true rfl⟩) hw [0] (by decide) rfl 0 rfl rfl rfl hl.1 rfl (Nat.le_of_ble_eq_true rfl) dX5_meanTrim_13 ⟨Nat.zero_le _, Nat.zero_le _⟩) hw [0] [1, 2, 3, 4, 5, 6, 7, 8] rfl rfl (by decide) (by decide) (fun r13 u13 H locs w13 hw => ?_)
    replace hw : kW D (kty cI cC cJ cG) s (va_A (wM cI cC bd u y) s.heap.size) [(bd 1, .inl (cI, 6, .inl (s_we u))), (bd 2, .inl (cI, 10, .inl (s_og u))), (bd 3, .inl (cI, 10, .inl (s_ow u))), (bd 4, .inl (cI, 10, .inl (s_ol u))), (bd 5, .inl (cI, 10, .inl (s_ok u))), (bd 6, .inl (cC, 400, .inl (s_kd u))), (bd 7, .inl (cI, 10, .inl y.2.2.1)), (bd 8, .inl (cI, 10, .inl y.2.2.2)), (bd 0, .inr (7, [.int 1, .int (nI (s_gc u)), .ref (bd 1), .int (nI (s_mw u)), .int (s_mg u), .int (s_up u), .int (s_ch u), .int (nI (s_oc u)), .ref (bd 2), .ref (bd 3), .ref (bd 4), .ref (bd 5), .int (s_sh u), .int (s_li u), .int (s_fp u), .int (s_sp u), .int (nI (s_hc u)), .ref (bd 6), .int (s_bk u), .long (s_fr u), .long (s_pa u), .long (s_lo u), .long (s_st u), .long (s_ma u), .int (s_ph u), .int (s_tr u), .int y.2.1, .ref (bd 7), .ref (bd 8)]))] H locs := hw
    replace w13 : r13 = if 1 = (0 : Int32) then 1 else 0 := w13
    by_cases b13 : 1 = (0 : Int32)
    · rw [if_pos b13] at w13
      subst w13
      exact absurd b13 (by decide)
    · rw [if_neg b13] at w13
      subst w13
      refine lv_if_eq (tgt := 33) hx hb dX5_meanTrim_16 (by decide) (fun _ => ?_) (fun h => absurd h (by decide))
      refine lv_dconst0 hx hb dX5_meanTrim_33 ?_
      replace hw := hw.pick (ws' := [(bd 0, .inr (7, [.int 1, .int (nI (s_gc u)), .ref (bd 1), .int (nI (s_mw u)), .int (s_mg u), .int (s_up u), .int (s_ch u), .int (nI (s_oc u)), .ref (bd 2), .ref (bd 3), .ref (bd 4), .ref (bd 5), .int (s_sh u), .int (s_li u), .int (s_fp u), .int (s_sp u), .int (nI (s_hc u)), .ref (bd 6), .int (s_bk u), .long (s_fr u), .long (s_pa u), .long (s_lo u), .long (s_st u), .long (s_ma u), .int (s_ph u), .int (s_tr u), .int y.2.1, .ref (bd 7), .ref (bd 8)])), (bd 1, .inl (cI, 6, .inl (s_we u))), (bd 2, .inl (cI, 10, .inl (s_og u))), (bd 3, .inl (cI, 10, .inl (s_ow u))), (bd 4, .inl (cI, 10, .inl (s_ol u))), (bd 5, .inl (cI, 10, .inl (s_ok u))), (bd 6, .inl (cC, 400, .inl (s_kd u))), (bd 7, .inl (cI, 10, .inl y.2.2.1)), (bd 8, .inl (cI, 10, .inl y.2.2.2))]) [8, 0, 1, 2, 3, 4, 5, 6, 7] (by decide) rfl
      exact k_dret (1, y.2.1, y.2.2.1, y.2.2.2) hx hb hr hlocks hw ⟨ec.symm, fun h => absurd (ec.symm.trans h) (by decide)⟩ dX5_meanTrim_34
