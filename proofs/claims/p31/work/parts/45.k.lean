set_option maxRecDepth 100000 in
set_option maxHeartbeats 4000000 in
/-- X4_paperShare -/
theorem c_X4_paperShare (l : Launch) (D : va_G) (cI cC cJ cG : ClassId) (sz : Nat) (ad : Nat → Nat) (u : ST) (v : HX) (x : CX) (hinv : Inv u) (hk0 : k_share u = 0) : kMf l yX4_paperShare wsX4_paperShare ({ frames := 0, cells := 0, slots := 0, locals := 0 }) D (kty cI cC cJ cG) [.ref (ad 0)] (wX cI cC ad u v x) sz 0 0 (fun (r : UInt32) (_ : Unit) => k_share u = 0 ∧ r = FP.fdiv (FP.l2f (s_pa u)) (FP.l2f (s_ma u))) (fun (_ : Unit) => wX cI cC ad u v x) := by
  unfold kMf
  refine k_ofW (cc := cX4_paperShare) (maxL := 1) (ret := (some .float)) (lv := [(0, .ref (ad 0))]) (by decide) rfl (Nat.le_of_ble_eq_true rfl) rfl ?_
  intro p e s m args below meth c ls H locs hE hsz hw hl
  obtain ⟨hx, hb, hr, hml, hown, hts, hlocks⟩ := hE
  subst hsz
  replace hw : kW D (kty cI cC cJ cG) s (va_A (wX cI cC ad u v x) s.heap.size) [(ad 0, .inr (4, [.ref (ad 1), .int (nI (s_gc u)), .int (nI (s_mw u)), .int (s_mg u), .int (s_ch u), .int (s_up u), .ref (ad 2), .ref (ad 7), .ref (ad 14), .ref (ad 15), .int (s_sh u), .int (s_bk u), .long (s_st u)])), (ad 1, .inl (cI, 6, .inl (s_we u))), (ad 2, .inr (3, [.ref (ad 3), .ref (ad 4), .ref (ad 5), .ref (ad 6), .int (nI (s_oc u))])), (ad 3, .inl (cI, 10, .inl (s_og u))), (ad 4, .inl (cI, 10, .inl (s_ow u))), (ad 5, .inl (cI, 10, .inl (s_ok u))), (ad 6, .inl (cI, 10, .inl (s_ol u))), (ad 7, .inr (1, [.ref (ad 8), .ref (ad 9), .ref (ad 10), .ref (ad 11), .ref (ad 12), .ref (ad 13), .int x.2.2.2.2.2.2.1, .int x.2.2.2.2.2.2.2])), (ad 8, .inl (cI, 10, .inl x.1)), (ad 9, .inl (cI, 10, .inl x.2.1)), (ad 10, .inl (cI, 10, .inl x.2.2.1)), (ad 11, .inl (cI, 10, .inl x.2.2.2.1)), (ad 12, .inl (cI, 10, .inl x.2.2.2.2.1)), (ad 13, .inl (cI, 801, .inl x.2.2.2.2.2.1)), (ad 14, .inr (0, [.int (s_li u), .int (s_fp u), .int (s_sp u)])), (ad 15, .inr (2, [.ref (ad 16), .ref (ad 17), .ref (ad 18), .ref (ad 19), .int (nI (s_hc u)), .long (s_fr u), .long (s_pa u), .long (s_lo u), .long (s_ma u), .long (Int32.toInt64 (s_tr u)), .int (s_ph u)])), (ad 16, .inl (cC, 400, .inl (s_kd u))), (ad 17, .inl (cI, 400, .inl v.1)), (ad 18, .inl (cI, 400, .inl v.2.1)), (ad 19, .inl (cI, 400, .inl v.2.2))] H locs := hw
  have hown : s.vm.findClass RX4 = some m.cls := hown
  have k_f48 : (Cond.fieldLink RX4 48 "PaperMachine" "hourBook" "LPaperMachine$HourBook;").before args s = true := hts _ (by decide +kernel)
  have k_f229 : (Cond.fieldLink RX4 229 "PaperMachine$HourBook" "massSum" "J").before args s = true := hts _ (by decide +kernel)
  have k_f213 : (Cond.fieldLink RX4 213 "PaperMachine$HourBook" "paperSum" "J").before args s = true := hts _ (by decide +kernel)
  have i_X4 : ∀ w ∈ u_ws RX4 TX4 13, w ∈ wsX4_paperShare := fun _ h => List.mem_cons_of_mem _ (List.mem_append_left _ (List.mem_append_left _ (List.mem_append_right _ h)))
  have i_X2 : ∀ w ∈ u_ws RX2 TX2 11, w ∈ wsX4_paperShare := fun _ h => List.mem_cons_of_mem _ (List.mem_append_left _ (List.mem_append_right _ h))
  have hno : ∀ E : String, ¬ (fun E => k_share u = 1 ∧ E = "java/lang/ArithmeticException") E := by
    intro E h
    rcases h with ⟨h, -⟩ <;> (rw [hk0] at h; exact absurd h (by decide))
  obtain ⟨hgc, ⟨hmw1, hmw2⟩, hmg, hup, hch, hoc, hsh, hli, hfp, hsp, hhc, hph, htr, hma, hpa, hwe, how, hord, hol, hok⟩ := id hinv
  refine lv_aload_n hx hb dX4_paperShare_0 rfl (lv_at hl 0 rfl) ?_
  refine k_get hx hb hts i_X4 hown hw 0 9 rfl rfl (by decide) k_f48 rfl dX4_paperShare_1 ?_
  refine k_get hx hb hts i_X2 hown hw 15 8 rfl rfl (by decide) k_f229 rfl dX4_paperShare_4 ?_
  refine lv_lconst (v := 0) hx hb dX4_paperShare_7 rfl ?_
  refine W.lcmp hx hb dX4_paperShare_8 ?_
  refine lv_if_gt (tgt := 22) hx hb dX4_paperShare_9 (by decide) (fun c9 => ?_) (fun c9 => ?_)
  · have hmaL : (s_ma u).toInt.natAbs ≤ 2 ^ 24 := by omega
    have hpaL : (s_pa u).toInt.natAbs ≤ 2 ^ 24 := by omega
    have hm0 : 0 < s_ma u := (lg_cmp_gt _ _).mp c9
    have hmi : (s_ma u).toInt ≠ 0 := fun z => by have q := (fa_lt64 _ _).mp hm0; rw [z] at q; exact absurd q (by decide)
    refine lv_aload_n hx hb dX4_paperShare_22 rfl (lv_at hl 0 rfl) ?_
    refine k_get hx hb hts i_X4 hown hw 0 9 rfl rfl (by decide) k_f48 rfl dX4_paperShare_23 ?_
    refine k_get hx hb hts i_X2 hown hw 15 6 rfl rfl (by decide) k_f213 rfl dX4_paperShare_26 ?_
    refine lv_l2f hx hb dX4_paperShare_29 ?_
    refine lv_aload_n hx hb dX4_paperShare_30 rfl (lv_at hl 0 rfl) ?_
    refine k_get hx hb hts i_X4 hown hw 0 9 rfl rfl (by decide) k_f48 rfl dX4_paperShare_31 ?_
    refine k_get hx hb hts i_X2 hown hw 15 8 rfl rfl (by decide) k_f229 rfl dX4_paperShare_34 ?_
    refine lv_l2f hx hb dX4_paperShare_37 ?_
    refine lv_fdiv hx hb dX4_paperShare_38 (fl_fdiv hpaL hmaL hmi) ?_
    exact k_fret () hx hb hr hlocks hw ⟨if_pos hm0, rfl⟩ dX4_paperShare_39
  · exact (hno "java/lang/ArithmeticException" (show (fun E => k_share u = 1 ∧ E = "java/lang/ArithmeticException") "java/lang/ArithmeticException" from (⟨if_neg (fun q => c9 ((lg_cmp_gt _ _).mpr q)), rfl⟩))).elim

set_option maxRecDepth 100000 in
set_option maxHeartbeats 4000000 in
/-- X4_meanTrim -/
theorem c_X4_meanTrim (l : Launch) (D : va_G) (cI cC cJ cG : ClassId) (sz : Nat) (ad : Nat → Nat) (u : ST) (v : HX) (x : CX) (hinv : Inv u) (hk0 : k_trim u = 0) : kMd l yX4_meanTrim wsX4_meanTrim ({ frames := 0, cells := 0, slots := 0, locals := 0 }) D (kty cI cC cJ cG) [.ref (ad 0)] (wX cI cC ad u v x) sz 0 0 (fun (r : UInt64) (_ : Unit) => k_trim u = 0 ∧ r = FP.ddiv (FP.i2d (s_tr u)) (FP.i2d (s_ph u))) (fun (_ : Unit) => wX cI cC ad u v x) := by
  unfold kMd
  refine k_ofW (cc := cX4_meanTrim) (maxL := 1) (ret := (some .double)) (lv := [(0, .ref (ad 0))]) (by decide) rfl (Nat.le_of_ble_eq_true rfl) rfl ?_
  intro p e s m args below meth c ls H locs hE hsz hw hl
  obtain ⟨hx, hb, hr, hml, hown, hts, hlocks⟩ := hE
  subst hsz
  replace hw : kW D (kty cI cC cJ cG) s (va_A (wX cI cC ad u v x) s.heap.size) [(ad 0, .inr (4, [.ref (ad 1), .int (nI (s_gc u)), .int (nI (s_mw u)), .int (s_mg u), .int (s_ch u), .int (s_up u), .ref (ad 2), .ref (ad 7), .ref (ad 14), .ref (ad 15), .int (s_sh u), .int (s_bk u), .long (s_st u)])), (ad 1, .inl (cI, 6, .inl (s_we u))), (ad 2, .inr (3, [.ref (ad 3), .ref (ad 4), .ref (ad 5), .ref (ad 6), .int (nI (s_oc u))])), (ad 3, .inl (cI, 10, .inl (s_og u))), (ad 4, .inl (cI, 10, .inl (s_ow u))), (ad 5, .inl (cI, 10, .inl (s_ok u))), (ad 6, .inl (cI, 10, .inl (s_ol u))), (ad 7, .inr (1, [.ref (ad 8), .ref (ad 9), .ref (ad 10), .ref (ad 11), .ref (ad 12), .ref (ad 13), .int x.2.2.2.2.2.2.1, .int x.2.2.2.2.2.2.2])), (ad 8, .inl (cI, 10, .inl x.1)), (ad 9, .inl (cI, 10, .inl x.2.1)), (ad 10, .inl (cI, 10, .inl x.2.2.1)), (ad 11, .inl (cI, 10, .inl x.2.2.2.1)), (ad 12, .inl (cI, 10, .inl x.2.2.2.2.1)), (ad 13, .inl (cI, 801, .inl x.2.2.2.2.2.1)), (ad 14, .inr (0, [.int (s_li u), .int (s_fp u), .int (s_sp u)])), (ad 15, .inr (2, [.ref (ad 16), .ref (ad 17), .ref (ad 18), .ref (ad 19), .int (nI (s_hc u)), .long (s_fr u), .long (s_pa u), .long (s_lo u), .long (s_ma u), .long (Int32.toInt64 (s_tr u)), .int (s_ph u)])), (ad 16, .inl (cC, 400, .inl (s_kd u))), (ad 17, .inl (cI, 400, .inl v.1)), (ad 18, .inl (cI, 400, .inl v.2.1)), (ad 19, .inl (cI, 400, .inl v.2.2))] H locs := hw
  have hown : s.vm.findClass RX4 = some m.cls := hown
  have k_f48 : (Cond.fieldLink RX4 48 "PaperMachine" "hourBook" "LPaperMachine$HourBook;").before args s = true := hts _ (by decide +kernel)
  have k_f237 : (Cond.fieldLink RX4 237 "PaperMachine$HourBook" "paperHours" "I").before args s = true := hts _ (by decide +kernel)
  have k_f242 : (Cond.fieldLink RX4 242 "PaperMachine$HourBook" "trimSum" "J").before args s = true := hts _ (by decide +kernel)
  have i_X4 : ∀ w ∈ u_ws RX4 TX4 13, w ∈ wsX4_meanTrim := fun _ h => List.mem_cons_of_mem _ (List.mem_append_left _ (List.mem_append_left _ (List.mem_append_right _ h)))
  have i_X2 : ∀ w ∈ u_ws RX2 TX2 11, w ∈ wsX4_meanTrim := fun _ h => List.mem_cons_of_mem _ (List.mem_append_left _ (List.mem_append_right _ h))
  have hno : ∀ E : String, ¬ (fun E => k_trim u = 1 ∧ E = "java/lang/ArithmeticException") E := by
    intro E h
    rcases h with ⟨h, -⟩ <;> (rw [hk0] at h; exact absurd h (by decide))
  obtain ⟨hgc, ⟨hmw1, hmw2⟩, hmg, hup, hch, hoc, hsh, hli, hfp, hsp, hhc, hph, htr, hma, hpa, hwe, how, hord, hol, hok⟩ := id hinv
  refine lv_aload_n hx hb dX4_meanTrim_0 rfl (lv_at hl 0 rfl) ?_
  refine k_get hx hb hts i_X4 hown hw 0 9 rfl rfl (by decide) k_f48 rfl dX4_meanTrim_1 ?_
  refine k_get hx hb hts i_X2 hown hw 15 10 rfl rfl (by decide) k_f237 rfl dX4_meanTrim_4 ?_
  refine lv_if_gt (tgt := 20) hx hb dX4_meanTrim_7 (by decide) (fun c7 => ?_) (fun c7 => ?_)
  · have hpi : (s_ph u).toInt ≠ 0 := fun z => by have q := (fa_lt _ _).mp c7; rw [z] at q; exact absurd q (by decide)
    refine lv_aload_n hx hb dX4_meanTrim_20 rfl (lv_at hl 0 rfl) ?_
    refine k_get hx hb hts i_X4 hown hw 0 9 rfl rfl (by decide) k_f48 rfl dX4_meanTrim_21 ?_
    refine k_get hx hb hts i_X2 hown hw 15 9 rfl rfl (by decide) k_f242 rfl dX4_meanTrim_24 ?_
    refine lv_l2d hx hb dX4_meanTrim_27 ?_
    refine lv_aload_n hx hb dX4_meanTrim_28 rfl (lv_at hl 0 rfl) ?_
    refine k_get hx hb hts i_X4 hown hw 0 9 rfl rfl (by decide) k_f48 rfl dX4_meanTrim_29 ?_
    refine k_get hx hb hts i_X2 hown hw 15 10 rfl rfl (by decide) k_f237 rfl dX4_meanTrim_32 ?_
    refine lv_i2d hx hb dX4_meanTrim_35 ?_
    refine lv_ddiv hx hb dX4_meanTrim_36 (by rw [fl_l2d]; exact fl_ddiv hpi) ?_
    exact k_dret () hx hb hr hlocks hw ⟨if_pos c7, by rw [fl_l2d]⟩ dX4_meanTrim_37
  · exact (hno "java/lang/ArithmeticException" (show (fun E => k_trim u = 1 ∧ E = "java/lang/ArithmeticException") "java/lang/ArithmeticException" from (⟨if_neg c7, rfl⟩))).elim
