set_option maxRecDepth 100000 in
set_option maxHeartbeats 4000000 in
/-- X1_sumBySearch -/
theorem c_X1_sumBySearch (l : Launch) (D : va_G) (cI cC cJ cG : ClassId) (h0 k1 k2 k3 k4 k5 : Nat) (sz : Nat) (k6 rm : Nat) (bs : Int32) (fb ft fw fm ff : Nat → Int32) (cp w wf : Nat → Nat) (hrm : rm ≤ 800) (hfw : ∀ j, j < 10 → fw j = nI (w j)) (hfm : ∀ j, j < 10 → fm j = nI (cp j)) (hff : ∀ j, j < 10 → ff j = nI (wf j)) (hwb : ∀ j, j < 10 → w j ≤ 400) (hcp : ∀ j, j < 10 → cp j ≤ 6) (hwf : ∀ j, j < 10 → wf j ≤ 400) (hbd : ∀ i j, i ≤ j → j < 10 → 0 < cp j → w j ≤ wf i) (hpos : ∀ j, j < 10 → 0 < cp j → 0 < w j) : kMi l yX1_sumBySearch wsX1_sumBySearch ({ frames := 13, cells := 0, slots := 0, locals := 346 }) D (kty cI cC cJ cG) [.ref h0] [(h0, .inr (1, [.ref k1, .ref k2, .ref k3, .ref k4, .ref k5, .ref k6, .int (nI rm), .int bs])), (k1, .inl (cI, 10, .inl fb)), (k2, .inl (cI, 10, .inl ft)), (k3, .inl (cI, 10, .inl fw)), (k4, .inl (cI, 10, .inl fm)), (k5, .inl (cI, 10, .inl ff))] sz 0 0 (fun (r : Int32) ((fb2, ft2, bs2) : (Nat → Int32) × (Nat → Int32) × Int32) => r = nI (ct_B cp w 10 0 6 rm).1 ∧ ∀ j, j < 10 → fb2 j = nI ((ct_B cp w 10 0 6 rm).2 j)) (fun ((fb2, ft2, bs2) : (Nat → Int32) × (Nat → Int32) × Int32) => [(h0, .inr (1, [.ref k1, .ref k2, .ref k3, .ref k4, .ref k5, .ref k6, .int (nI rm), .int bs2])), (k1, .inl (cI, 10, .inl fb2)), (k2, .inl (cI, 10, .inl ft2)), (k3, .inl (cI, 10, .inl fw)), (k4, .inl (cI, 10, .inl fm)), (k5, .inl (cI, 10, .inl ff))]) := by
  unfold kMi
  refine k_ofW (cc := cX1_sumBySearch) (maxL := 1) (ret := (some .int)) (lv := [(0, .ref h0)]) (by decide) rfl (Nat.le_of_ble_eq_true rfl) rfl ?_
  intro p e s m args below meth c ls H locs hE hsz hw hl
  obtain ⟨hx, hb, hr, hml, hown, hts, hlocks⟩ := hE
  subst hsz
  have hown : s.vm.findClass RX1 = some m.cls := hown
  have k_f56 : (Cond.fieldLink RX1 56 "PaperMachine$Cutter" "bestSum" "I").before args s = true := hts _ (by decide +kernel)
  have k_f9 : (Cond.fieldLink RX1 9 "PaperMachine$Cutter" "best" "[I").before args s = true := hts _ (by decide +kernel)
  have i_X1 : ∀ w ∈ u_ws RX1 TX1 8, w ∈ wsX1_sumBySearch := fun _ h => List.mem_cons_of_mem _ (List.mem_append_right _ h)
  refine lv_aload_n hx hb dX1_sumBySearch_0 rfl (lv_at hl 0 rfl) ?_
  refine lv_iconst (v := 0) hx hb dX1_sumBySearch_1 (by decide) ?_
  refine k_put hx hb hts i_X1 tyX1_ok nmX1 hown hw 0 7 (ws' := [(h0, .inr (1, [.ref k1, .ref k2, .ref k3, .ref k4, .ref k5, .ref k6, .int (nI rm), .int 0])), (k1, .inl (cI, 10, .inl fb)), (k2, .inl (cI, 10, .inl ft)), (k3, .inl (cI, 10, .inl fw)), (k4, .inl (cI, 10, .inl fm)), (k5, .inl (cI, 10, .inl ff))]) rfl rfl (by decide) k_f56 rfl rfl rfl (Nat.le_of_ble_eq_true rfl) rfl dX1_sumBySearch_2 (fun H locs hw => ?_)
  refine lv_aload_n hx hb dX1_sumBySearch_5 rfl (lv_at hl 0 rfl) ?_
  refine k_get hx hb hts i_X1 hown hw 0 0 rfl rfl (by decide) k_f9 rfl dX1_sumBySearch_6 ?_
  refine lv_iconst (v := 0) hx hb dX1_sumBySearch_9 (by decide) ?_
  refine k_callv (wr := [(h0, .inr (1, [.ref k1, .ref k2, .ref k3, .ref k4, .ref k5, .ref k6, .int (nI rm), .int 0])), (k2, .inl (cI, 10, .inl ft)), (k3, .inl (cI, 10, .inl fw)), (k4, .inl (cI, 10, .inl fm)), (k5, .inl (cI, 10, .inl ff))]) (k_runS (wc := [(k1, .inl (cI, 10, .inl fb))]) (As := [.ref k1, .int 0]) (rest := []) ⟨hx, hb, hml, hown, hts⟩ (c_J7_fill_53178 l D cI cC cJ cG k1 H.size 10 fb 0 (by omega)) (va_cwS 2 hts gX1_sumBySearch_J7_fill_53178 rfl rfl rfl (by decide +kernel) ⟨Nat.le_of_ble_eq_true rfl, Nat.le_of_ble_eq_true rfl⟩) hw [1] (by decide) rfl rfl hl.1 rfl (Nat.le_of_ble_eq_true rfl) dX1_sumBySearch_10 ⟨Nat.zero_le _, Nat.zero_le _⟩) hw [1] [0, 2, 3, 4, 5] rfl rfl (by decide) (by decide) (fun u10 H locs w10 hw => ?_)
  replace hw : kW D (kty cI cC cJ cG) s (va_A [(h0, .inr (1, [.ref k1, .ref k2, .ref k3, .ref k4, .ref k5, .ref k6, .int (nI rm), .int bs])), (k1, .inl (cI, 10, .inl fb)), (k2, .inl (cI, 10, .inl ft)), (k3, .inl (cI, 10, .inl fw)), (k4, .inl (cI, 10, .inl fm)), (k5, .inl (cI, 10, .inl ff))] s.heap.size) [(h0, .inr (1, [.ref k1, .ref k2, .ref k3, .ref k4, .ref k5, .ref k6, .int (nI rm), .int 0])), (k2, .inl (cI, 10, .inl ft)), (k3, .inl (cI, 10, .inl fw)), (k4, .inl (cI, 10, .inl fm)), (k5, .inl (cI, 10, .inl ff)), (k1, .inl (cI, 10, .inl (f_fill 0 10 fb)))] H locs := hw
  replace w10 : True := w10
  refine lv_aload_n hx hb dX1_sumBySearch_13 rfl (lv_at hl 0 rfl) ?_
  refine lv_iconst (v := 0) hx hb dX1_sumBySearch_14 (by decide) ?_
  refine lv_bipush (v := 6) hx hb dX1_sumBySearch_15 (by decide) ?_
  refine lv_iconst (v := 0) hx hb dX1_sumBySearch_17 (by decide) ?_
  refine k_callv (wr := []) (k_runS (wc := [(h0, .inr (1, [.ref k1, .ref k2, .ref k3, .ref k4, .ref k5, .ref k6, .int (nI rm), .int 0])), (k1, .inl (cI, 10, .inl (f_fill 0 10 fb))), (k2, .inl (cI, 10, .inl ft)), (k3, .inl (cI, 10, .inl fw)), (k4, .inl (cI, 10, .inl fm)), (k5, .inl (cI, 10, .inl ff))]) (As := [.ref h0, .int 0, .int 6, .int 0]) (rest := []) ⟨hx, hb, hml, hown, hts⟩ (c_X1_search l D cI cC cJ cG 10 h0 k1 k2 k3 k4 k5 H.size k6 rm 0 (f_fill 0 10 fb) ft fw fm ff 0 6 0 cp w wf (fun _ => 0) (fun _ => 0) (by omega) (by omega) hrm (Nat.zero_le _) hfw hfm hff hwb hcp hwf hbd hpos (fun j hj => by simp only [f_fill]; rw [if_pos hj]; rfl) (fun j hj => absurd hj (Nat.not_lt_zero j))) (va_cwS 4 hts gX1_sumBySearch_X1_search rfl rfl rfl (by decide +kernel) ⟨Nat.le_of_ble_eq_true rfl, Nat.le_of_ble_eq_true rfl⟩) hw [0, 5, 1, 2, 3, 4] (by decide) rfl rfl hl.1 rfl (Nat.le_of_ble_eq_true rfl) dX1_sumBySearch_18 ⟨Nat.zero_le _, Nat.zero_le _⟩) hw [0, 5, 1, 2, 3, 4] [] rfl rfl (by decide) (by decide) (fun u18 H locs w18 hw => ?_)
  obtain ⟨fb2_18, ft2_18, bs2_18⟩ := u18
  replace hw : kW D (kty cI cC cJ cG) s (va_A [(h0, .inr (1, [.ref k1, .ref k2, .ref k3, .ref k4, .ref k5, .ref k6, .int (nI rm), .int bs])), (k1, .inl (cI, 10, .inl fb)), (k2, .inl (cI, 10, .inl ft)), (k3, .inl (cI, 10, .inl fw)), (k4, .inl (cI, 10, .inl fm)), (k5, .inl (cI, 10, .inl ff))] s.heap.size) [(h0, .inr (1, [.ref k1, .ref k2, .ref k3, .ref k4, .ref k5, .ref k6, .int (nI rm), .int bs2_18])), (k1, .inl (cI, 10, .inl fb2_18)), (k2, .inl (cI, 10, .inl ft2_18)), (k3, .inl (cI, 10, .inl fw)), (k4, .inl (cI, 10, .inl fm)), (k5, .inl (cI, 10, .inl ff))] H locs := hw
  obtain ⟨hb9, hv9⟩ := sr_start hrm hpos w18.1
  refine lv_aload_n hx hb dX1_sumBySearch_21 rfl (lv_at hl 0 rfl) ?_
  refine k_get hx hb hts i_X1 hown hw 0 7 rfl rfl (by decide) k_f56 rfl dX1_sumBySearch_22 ?_
  exact k_iret (fb2_18, ft2_18, bs2_18) hx hb hr hlocks hw ⟨hb9, hv9⟩ dX1_sumBySearch_25

set_option maxRecDepth 100000 in
set_option maxHeartbeats 4000000 in
/-- X4_make -/
theorem c_X4_make (l : Launch) (D : va_G) (cI cC cJ cG : ClassId) (h0 q4 q5 b1 b2 b3 b4 : Nat) (sz : Nat) (q1 q2 q3 G : Nat) (mw mg ch up sh bk : Int32) (st : Int64) (li fp sp : Int32) (k : Nat) (fr pa lo ma ts : Int64) (ph : Int32) (kd fi po lt : Nat → Int32) (p0 p1 p2 : Int32) (hk : k < 400) (hc : vp_nar .char p0 = p0) : kMv l yX4_make wsX4_make ({ frames := 2, cells := 0, slots := 0, locals := 35 }) D (kty cI cC cJ cG) [.ref h0, .int p0, .int p1, .int p2] [(h0, .inr (4, [.ref q1, .int (nI G), .int mw, .int mg, .int ch, .int up, .ref q2, .ref q3, .ref q4, .ref q5, .int sh, .int bk, .long st])), (q4, .inr (0, [.int li, .int fp, .int sp])), (q5, .inr (2, [.ref b1, .ref b2, .ref b3, .ref b4, .int (nI k), .long fr, .long pa, .long lo, .long ma, .long ts, .int ph])), (b1, .inl (cC, 400, .inl kd)), (b2, .inl (cI, 400, .inl fi)), (b3, .inl (cI, 400, .inl po)), (b4, .inl (cI, 400, .inl lt))] sz 0 0 (fun (_ : Unit) => True) (fun (_ : Unit) => [(h0, .inr (4, [.ref q1, .int (nI G), .int mw, .int mg, .int ch, .int up, .ref q2, .ref q3, .ref q4, .ref q5, .int sh, .int (bk + (p2 - m_fed bk sh p1)), .long (st + f_cost li fp sp (p1 / 2))])), (q4, .inr (0, [.int li, .int fp, .int sp])), (q5, .inr (2, [.ref b1, .ref b2, .ref b3, .ref b4, .int (nI (k + 1)), .long (fr + Int32.toInt64 (m_fib p1 - m_fed bk sh p1)), .long (pa + Int32.toInt64 (p1 - p2)), .long (lo + Int32.toInt64 (p1 / 50)), .long (ma + Int32.toInt64 p1), .long ts, .int ph])), (b1, .inl (cC, 400, .inl (upd kd k p0))), (b2, .inl (cI, 400, .inl (upd fi k (m_fib p1 - m_fed bk sh p1)))), (b3, .inl (cI, 400, .inl (upd po k (p1 - p2)))), (b4, .inl (cI, 400, .inl (upd lt k (p1 / 50))))]) := by
  unfold kMv
  refine k_ofW (cc := cX4_make) (maxL := 7) (ret := none) (lv := [(0, .ref h0), (1, .int p0), (2, .int p1), (3, .int p2)]) (by decide) rfl (Nat.le_of_ble_eq_true rfl) rfl ?_
  intro p e s m args below meth c ls H locs hE hsz hw hl
  obtain ⟨hx, hb, hr, hml, hown, hts, hlocks⟩ := hE
  subst hsz
  have hown : s.vm.findClass RX4 = some m.cls := hown
  have k_f203 : (Cond.fieldLink RX4 203 "PaperMachine" "brokeKept" "I").before args s = true := hts _ (by decide +kernel)
  have k_f52 : (Cond.fieldLink RX4 52 "PaperMachine" "share" "I").before args s = true := hts _ (by decide +kernel)
  have k_m263 : (Cond.methodLink RX4 263 Lib.Math.min.name).before args s = true := hts _ (by decide +kernel)
  have k_s_min : (Cond.static Lib.Math.min.name).before args s = true := hts _ (by decide +kernel)
  have k_imath : (Cond.initialized "java/lang/Math").before args s = true := hts _ (by decide +kernel)
  have k_c_min : (Cond.code Lib.Math.min.name Lib.Math.min.code 2 (some .int)).before args s = true := hts _ (by decide +kernel)
  have k_f48 : (Cond.fieldLink RX4 48 "PaperMachine" "hourBook" "LPaperMachine$HourBook;").before args s = true := hts _ (by decide +kernel)
  have k_f229 : (Cond.fieldLink RX4 229 "PaperMachine$HourBook" "massSum" "J").before args s = true := hts _ (by decide +kernel)
  have k_f226 : (Cond.fieldLink RX4 226 "PaperMachine" "steamSum" "J").before args s = true := hts _ (by decide +kernel)
  have k_f41 : (Cond.fieldLink RX4 41 "PaperMachine" "contract" "LPaperMachine$Contract;").before args s = true := hts _ (by decide +kernel)
  have i_X4 : ∀ w ∈ u_ws RX4 TX4 13, w ∈ wsX4_make := fun _ h => List.mem_cons_of_mem _ (List.mem_append_left _ (List.mem_append_left _ (List.mem_append_right _ h)))
  have i_X2 : ∀ w ∈ u_ws RX2 TX2 11, w ∈ wsX4_make := fun _ h => List.mem_cons_of_mem _ (List.mem_append_left _ (List.mem_append_right _ h))
  refine lv_iload_n hx hb dX4_make_0 rfl (lv_at hl 2 rfl) ?_
  refine lv_bipush (v := 50) hx hb dX4_make_1 (by decide) ?_
  refine lv_idiv hx hb dX4_make_3 (by decide) ?_
  refine lv_istore (lv' := [(4, .int (p1 / 50)), (0, .ref h0), (1, .int p0), (2, .int p1), (3, .int p2)]) hx hb dX4_make_4 hl (by decide) rfl (fun ls hl => ?_)
  refine lv_iload_n hx hb dX4_make_6 rfl (lv_at hl 3 rfl) ?_
  refine lv_iload hx hb dX4_make_7 (lv_at hl 0 rfl) ?_
  refine lv_iadd hx hb dX4_make_9 ?_
  refine k_eqi (y := m_fib p1) rfl ?_
  refine lv_istore (lv' := [(5, .int (m_fib p1)), (4, .int (p1 / 50)), (0, .ref h0), (1, .int p0), (2, .int p1), (3, .int p2)]) hx hb dX4_make_10 hl (by decide) rfl (fun ls hl => ?_)
  refine lv_aload_n hx hb dX4_make_12 rfl (lv_at hl 2 rfl) ?_
  refine k_get hx hb hts i_X4 hown hw 0 11 rfl rfl (by decide) k_f203 rfl dX4_make_13 ?_
  refine lv_iload hx hb dX4_make_16 (lv_at hl 0 rfl) ?_
  refine lv_aload_n hx hb dX4_make_18 rfl (lv_at hl 2 rfl) ?_
  refine k_get hx hb hts i_X4 hown hw 0 10 rfl rfl (by decide) k_f52 rfl dX4_make_19 ?_
  refine lv_imul hx hb dX4_make_22 ?_
  refine lv_bipush (v := 100) hx hb dX4_make_23 (by decide) ?_
  refine lv_idiv hx hb dX4_make_25 (by decide) ?_
  refine va_mmin hx hb (hml.trans hl.1.symm) hown k_m263 k_s_min k_imath k_c_min (Nat.le_of_ble_eq_true rfl) (Nat.le_of_ble_eq_true rfl) (Nat.le_of_ble_eq_true rfl) (Nat.le_of_ble_eq_true rfl) dX4_make_26 ?_
  refine k_eqi (y := m_fed bk sh p1) rfl ?_
  refine lv_istore (lv' := [(6, .int (m_fed bk sh p1)), (5, .int (m_fib p1)), (4, .int (p1 / 50)), (0, .ref h0), (1, .int p0), (2, .int p1), (3, .int p2)]) hx hb dX4_make_29 hl (by decide) rfl (fun ls hl => ?_)
  refine lv_aload_n hx hb dX4_make_31 rfl (lv_at hl 3 rfl) ?_
  refine lv_dup hx hb dX4_make_32 rfl ?_
  refine k_get hx hb hts i_X4 hown hw 0 11 rfl rfl (by decide) k_f203 rfl dX4_make_33 ?_
  refine lv_iload_n hx hb dX4_make_36 rfl (lv_at hl 6 rfl) ?_
  refine lv_iload hx hb dX4_make_37 (lv_at hl 0 rfl) ?_
  refine lv_isub hx hb dX4_make_39 ?_
  refine lv_iadd hx hb dX4_make_40 ?_
  refine k_put hx hb hts i_X4 tyX4_ok nmX4 hown hw 0 11 (ws' := [(h0, .inr (4, [.ref q1, .int (nI G), .int mw, .int mg, .int ch, .int up, .ref q2, .ref q3, .ref q4, .ref q5, .int sh, .int (bk + (p2 - (m_fed bk sh p1))), .long st])), (q4, .inr (0, [.int li, .int fp, .int sp])), (q5, .inr (2, [.ref b1, .ref b2, .ref b3, .ref b4, .int (nI k), .long fr, .long pa, .long lo, .long ma, .long ts, .int ph])), (b1, .inl (cC, 400, .inl kd)), (b2, .inl (cI, 400, .inl fi)), (b3, .inl (cI, 400, .inl po)), (b4, .inl (cI, 400, .inl lt))]) rfl rfl (by decide) k_f203 rfl rfl rfl (Nat.le_of_ble_eq_true rfl) rfl dX4_make_41 (fun H locs hw => ?_)
  refine lv_aload_n hx hb dX4_make_44 rfl (lv_at hl 3 rfl) ?_
  refine k_get hx hb hts i_X4 hown hw 0 9 rfl rfl (by decide) k_f48 rfl dX4_make_45 ?_
  refine lv_iload_n hx hb dX4_make_48 rfl (lv_at hl 4 rfl) ?_
  refine lv_iload hx hb dX4_make_49 (lv_at hl 1 rfl) ?_
  refine lv_iload hx hb dX4_make_51 (lv_at hl 0 rfl) ?_
  refine lv_isub hx hb dX4_make_53 ?_
  refine lv_iload_n hx hb dX4_make_54 rfl (lv_at hl 5 rfl) ?_
  refine lv_iload_n hx hb dX4_make_55 rfl (lv_at hl 6 rfl) ?_
  refine lv_isub hx hb dX4_make_56 ?_
  refine lv_iload hx hb dX4_make_57 (lv_at hl 2 rfl) ?_
  refine k_callv (wr := [(h0, .inr (4, [.ref q1, .int (nI G), .int mw, .int mg, .int ch, .int up, .ref q2, .ref q3, .ref q4, .ref q5, .int sh, .int (bk + (p2 - (m_fed bk sh p1))), .long st])), (q4, .inr (0, [.int li, .int fp, .int sp]))]) (k_runV (wc := [(q5, .inr (2, [.ref b1, .ref b2, .ref b3, .ref b4, .int (nI k), .long fr, .long pa, .long lo, .long ma, .long ts, .int ph])), (b1, .inl (cC, 400, .inl kd)), (b2, .inl (cI, 400, .inl fi)), (b3, .inl (cI, 400, .inl po)), (b4, .inl (cI, 400, .inl lt))]) (As := [.int p0, .int ((m_fib p1) - (m_fed bk sh p1)), .int (p1 - p2), .int (p1 / 50)]) (rest := []) ⟨hx, hb, hml, hown, hts⟩ (c_X2_writeMade l D cI cC cJ cG q5 b1 b2 b3 b4 H.size k fr pa lo ma ts ph kd fi po lt p0 ((m_fib p1) - (m_fed bk sh p1)) (p1 - p2) (p1 / 50) hk hc) (cwV 4 hts gX4_make_X2_writeMade rfl rfl rfl (by decide +kernel) ⟨Nat.le_of_ble_eq_true rfl, Nat.le_of_ble_eq_true rfl⟩) hw [2, 3, 4, 5, 6] (by decide) rfl 2 rfl rfl rfl hl.1 rfl (Nat.le_of_ble_eq_true rfl) dX4_make_59 ⟨Nat.zero_le _, Nat.zero_le _⟩) hw [2, 3, 4, 5, 6] [0, 1] rfl rfl (by decide) (by decide) (fun u59 H locs w59 hw => ?_)
  replace hw : kW D (kty cI cC cJ cG) s (va_A [(h0, .inr (4, [.ref q1, .int (nI G), .int mw, .int mg, .int ch, .int up, .ref q2, .ref q3, .ref q4, .ref q5, .int sh, .int bk, .long st])), (q4, .inr (0, [.int li, .int fp, .int sp])), (q5, .inr (2, [.ref b1, .ref b2, .ref b3, .ref b4, .int (nI k), .long fr, .long pa, .long lo, .long ma, .long ts, .int ph])), (b1, .inl (cC, 400, .inl kd)), (b2, .inl (cI, 400, .inl fi)), (b3, .inl (cI, 400, .inl po)), (b4, .inl (cI, 400, .inl lt))] s.heap.size) [(h0, .inr (4, [.ref q1, .int (nI G), .int mw, .int mg, .int ch, .int up, .ref q2, .ref q3, .ref q4, .ref q5, .int sh, .int (bk + (p2 - (m_fed bk sh p1))), .long st])), (q4, .inr (0, [.int li, .int fp, .int sp])), (q5, .inr (2, [.ref b1, .ref b2, .ref b3, .ref b4, .int (nI (k + 1)), .long (fr + Int32.toInt64 ((m_fib p1) - (m_fed bk sh p1))), .long (pa + Int32.toInt64 (p1 - p2)), .long (lo + Int32.toInt64 (p1 / 50)), .long ma, .long ts, .int ph])), (b1, .inl (cC, 400, .inl (upd kd k p0))), (b2, .inl (cI, 400, .inl (upd fi k ((m_fib p1) - (m_fed bk sh p1))))), (b3, .inl (cI, 400, .inl (upd po k (p1 - p2)))), (b4, .inl (cI, 400, .inl (upd lt k (p1 / 50))))] H locs := hw
  replace w59 : True := w59
  refine lv_aload_n hx hb dX4_make_62 rfl (lv_at hl 3 rfl) ?_
  refine k_get hx hb hts i_X4 hown hw 0 9 rfl rfl (by decide) k_f48 rfl dX4_make_63 ?_
  refine lv_dup hx hb dX4_make_66 rfl ?_
  refine k_get hx hb hts i_X2 hown hw 2 8 rfl rfl (by decide) k_f229 rfl dX4_make_67 ?_
  refine lv_iload_n hx hb dX4_make_70 rfl (lv_at hl 5 rfl) ?_
  refine lv_i2l (v := Int32.toInt64 p1) hx hb dX4_make_71 rfl ?_
  refine lv_ladd hx hb dX4_make_72 ?_
  refine k_put hx hb hts i_X2 tyX2_ok nmX2 hown hw 2 8 (ws' := [(h0, .inr (4, [.ref q1, .int (nI G), .int mw, .int mg, .int ch, .int up, .ref q2, .ref q3, .ref q4, .ref q5, .int sh, .int (bk + (p2 - (m_fed bk sh p1))), .long st])), (q4, .inr (0, [.int li, .int fp, .int sp])), (q5, .inr (2, [.ref b1, .ref b2, .ref b3, .ref b4, .int (nI (k + 1)), .long (fr + Int32.toInt64 ((m_fib p1) - (m_fed bk sh p1))), .long (pa + Int32.toInt64 (p1 - p2)), .long (lo + Int32.toInt64 (p1 / 50)), .long (ma + (Int32.toInt64 p1)), .long ts, .int ph])), (b1, .inl (cC, 400, .inl (upd kd k p0))), (b2, .inl (cI, 400, .inl (upd fi k ((m_fib p1) - (m_fed bk sh p1))))), (b3, .inl (cI, 400, .inl (upd po k (p1 - p2)))), (b4, .inl (cI, 400, .inl (upd lt k (p1 / 50))))]) rfl rfl (by decide) k_f229 rfl rfl rfl (Nat.le_of_ble_eq_true rfl) rfl dX4_make_73 (fun H locs hw => ?_)
  refine lv_aload_n hx hb dX4_make_76 rfl (lv_at hl 3 rfl) ?_
  refine lv_dup hx hb dX4_make_77 rfl ?_
  refine k_get hx hb hts i_X4 hown hw 0 12 rfl rfl (by decide) k_f226 rfl dX4_make_78 ?_
  refine lv_aload_n hx hb dX4_make_81 rfl (lv_at hl 3 rfl) ?_
  refine k_get hx hb hts i_X4 hown hw 0 8 rfl rfl (by decide) k_f41 rfl dX4_make_82 ?_
  refine lv_iload_n hx hb dX4_make_85 rfl (lv_at hl 5 rfl) ?_
  refine lv_iconst (v := 2) hx hb dX4_make_86 (by decide) ?_
  refine lv_idiv hx hb dX4_make_87 (by decide) ?_
  refine k_calll (wr := [(h0, .inr (4, [.ref q1, .int (nI G), .int mw, .int mg, .int ch, .int up, .ref q2, .ref q3, .ref q4, .ref q5, .int sh, .int (bk + (p2 - (m_fed bk sh p1))), .long st])), (q5, .inr (2, [.ref b1, .ref b2, .ref b3, .ref b4, .int (nI (k + 1)), .long (fr + Int32.toInt64 ((m_fib p1) - (m_fed bk sh p1))), .long (pa + Int32.toInt64 (p1 - p2)), .long (lo + Int32.toInt64 (p1 / 50)), .long (ma + (Int32.toInt64 p1)), .long ts, .int ph])), (b1, .inl (cC, 400, .inl (upd kd k p0))), (b2, .inl (cI, 400, .inl (upd fi k ((m_fib p1) - (m_fed bk sh p1))))), (b3, .inl (cI, 400, .inl (upd po k (p1 - p2)))), (b4, .inl (cI, 400, .inl (upd lt k (p1 / 50))))]) (k_runV (wc := [(q4, .inr (0, [.int li, .int fp, .int sp]))]) (As := [.int (p1 / 2)]) (rest := [.long st, .ref h0]) ⟨hx, hb, hml, hown, hts⟩ (c_X0_cost l D cI cC cJ cG q4 H.size li fp sp (p1 / 2)) (cwV 1 hts gX4_make_X0_cost rfl rfl rfl (by decide +kernel) ⟨Nat.le_of_ble_eq_true rfl, Nat.le_of_ble_eq_true rfl⟩) hw [1] (by decide) rfl 1 rfl rfl rfl hl.1 rfl (Nat.le_of_ble_eq_true rfl) dX4_make_88 ⟨Nat.zero_le _, Nat.zero_le _⟩) hw [1] [0, 2, 3, 4, 5, 6] rfl rfl (by decide) (by decide) (fun r88 u88 H locs w88 hw => ?_)
  replace hw : kW D (kty cI cC cJ cG) s (va_A [(h0, .inr (4, [.ref q1, .int (nI G), .int mw, .int mg, .int ch, .int up, .ref q2, .ref q3, .ref q4, .ref q5, .int sh, .int bk, .long st])), (q4, .inr (0, [.int li, .int fp, .int sp])), (q5, .inr (2, [.ref b1, .ref b2, .ref b3, .ref b4, .int (nI k), .long fr, .long pa, .long lo, .long ma, .long ts, .int ph])), (b1, .inl (cC, 400, .inl kd)), (b2, .inl (cI, 400, .inl fi)), (b3, .inl (cI, 400, .inl po)), (b4, .inl (cI, 400, .inl lt))] s.heap.size) [(h0, .inr (4, [.ref q1, .int (nI G), .int mw, .int mg, .int ch, .int up, .ref q2, .ref q3, .ref q4, .ref q5, .int sh, .int (bk + (p2 - (m_fed bk sh p1))), .long st])), (q5, .inr (2, [.ref b1, .ref b2, .ref b3, .ref b4, .int (nI (k + 1)), .long (fr + Int32.toInt64 ((m_fib p1) - (m_fed bk sh p1))), .long (pa + Int32.toInt64 (p1 - p2)), .long (lo + Int32.toInt64 (p1 / 50)), .long (ma + (Int32.toInt64 p1)), .long ts, .int ph])), (b1, .inl (cC, 400, .inl (upd kd k p0))), (b2, .inl (cI, 400, .inl (upd fi k ((m_fib p1) - (m_fed bk sh p1))))), (b3, .inl (cI, 400, .inl (upd po k (p1 - p2)))), (b4, .inl (cI, 400, .inl (upd lt k (p1 / 50)))), (q4, .inr (0, [.int li, .int fp, .int sp]))] H locs := hw
  replace w88 : r88 = f_cost li fp sp (p1 / 2) := w88
  subst w88
  refine lv_ladd hx hb dX4_make_91 ?_
  refine k_put hx hb hts i_X4 tyX4_ok nmX4 hown hw 0 12 (ws' := [(h0, .inr (4, [.ref q1, .int (nI G), .int mw, .int mg, .int ch, .int up, .ref q2, .ref q3, .ref q4, .ref q5, .int sh, .int (bk + (p2 - (m_fed bk sh p1))), .long (st + (f_cost li fp sp (p1 / 2)))])), (q5, .inr (2, [.ref b1, .ref b2, .ref b3, .ref b4, .int (nI (k + 1)), .long (fr + Int32.toInt64 ((m_fib p1) - (m_fed bk sh p1))), .long (pa + Int32.toInt64 (p1 - p2)), .long (lo + Int32.toInt64 (p1 / 50)), .long (ma + (Int32.toInt64 p1)), .long ts, .int ph])), (b1, .inl (cC, 400, .inl (upd kd k p0))), (b2, .inl (cI, 400, .inl (upd fi k ((m_fib p1) - (m_fed bk sh p1))))), (b3, .inl (cI, 400, .inl (upd po k (p1 - p2)))), (b4, .inl (cI, 400, .inl (upd lt k (p1 / 50)))), (q4, .inr (0, [.int li, .int fp, .int sp]))]) rfl rfl (by decide) k_f226 rfl rfl rfl (Nat.le_of_ble_eq_true rfl) rfl dX4_make_92 (fun H locs hw => ?_)
  replace hw := hw.pick (ws' := [(h0, .inr (4, [.ref q1, .int (nI G), .int mw, .int mg, .int ch, .int up, .ref q2, .ref q3, .ref q4, .ref q5, .int sh, .int (bk + (p2 - (m_fed bk sh p1))), .long (st + (f_cost li fp sp (p1 / 2)))])), (q4, .inr (0, [.int li, .int fp, .int sp])), (q5, .inr (2, [.ref b1, .ref b2, .ref b3, .ref b4, .int (nI (k + 1)), .long (fr + Int32.toInt64 ((m_fib p1) - (m_fed bk sh p1))), .long (pa + Int32.toInt64 (p1 - p2)), .long (lo + Int32.toInt64 (p1 / 50)), .long (ma + (Int32.toInt64 p1)), .long ts, .int ph])), (b1, .inl (cC, 400, .inl (upd kd k p0))), (b2, .inl (cI, 400, .inl (upd fi k ((m_fib p1) - (m_fed bk sh p1))))), (b3, .inl (cI, 400, .inl (upd po k (p1 - p2)))), (b4, .inl (cI, 400, .inl (upd lt k (p1 / 50))))]) [0, 6, 1, 2, 3, 4, 5] (by decide) rfl
  exact k_vret () hx hb hr hlocks hw trivial dX4_make_95

set_option maxRecDepth 100000 in
set_option maxHeartbeats 4000000 in
/-- X4_nearestWaiting -/
theorem c_X4_nearestWaiting (l : Launch) (D : va_G) (cI cC cJ cG : ClassId) (h0 q1 q2 o1 o4 : Nat) (sz : Nat) (q3 q4 q5 G : Nat) (mw mg ch up sh bk : Int32) (st : Int64) (we : Nat → Int32) (o2 o3 k : Nat) (og ol : Nat → Int32) (p0 p1 : Int32) (hG : G ≤ 6) (hk : k ≤ 10) : kMi l yX4_nearestWaiting wsX4_nearestWaiting ({ frames := 1, cells := 0, slots := 0, locals := 23 }) D (kty cI cC cJ cG) [.ref h0, .int p0, .int p1] [(h0, .inr (4, [.ref q1, .int (nI G), .int mw, .int mg, .int ch, .int up, .ref q2, .ref q3, .ref q4, .ref q5, .int sh, .int bk, .long st])), (q1, .inl (cI, 6, .inl we)), (q2, .inr (3, [.ref o1, .ref o2, .ref o3, .ref o4, .int (nI k)])), (o1, .inl (cI, 10, .inl og)), (o4, .inl (cI, 10, .inl ol))] sz 0 0 (fun (r : Int32) (_ : Unit) => r = f_near we (f_op og ol k) p0 p1 G) (fun (_ : Unit) => [(h0, .inr (4, [.ref q1, .int (nI G), .int mw, .int mg, .int ch, .int up, .ref q2, .ref q3, .ref q4, .ref q5, .int sh, .int bk, .long st])), (q1, .inl (cI, 6, .inl we)), (q2, .inr (3, [.ref o1, .ref o2, .ref o3, .ref o4, .int (nI k)])), (o1, .inl (cI, 10, .inl og)), (o4, .inl (cI, 10, .inl ol))]) := by
  unfold kMi
  refine k_ofW (cc := cX4_nearestWaiting) (maxL := 8) (ret := (some .int)) (lv := [(0, .ref h0), (1, .int p0), (2, .int p1)]) (by decide) rfl (Nat.le_of_ble_eq_true rfl) rfl ?_
  intro p e s m args below meth c ls H locs hE hsz hw hl
  obtain ⟨hx, hb, hr, hml, hown, hts, hlocks⟩ := hE
  subst hsz
  have hown : s.vm.findClass RX4 = some m.cls := hown
  have k_f70 : (Cond.fieldLink RX4 70 "PaperMachine" "gradeCount" "I").before args s = true := hts _ (by decide +kernel)
  have k_f9 : (Cond.fieldLink RX4 9 "PaperMachine" "weights" "[I").before args s = true := hts _ (by decide +kernel)
  have k_f27 : (Cond.fieldLink RX4 27 "PaperMachine" "orderBook" "LPaperMachine$OrderBook;").before args s = true := hts _ (by decide +kernel)
  have i_X4 : ∀ w ∈ u_ws RX4 TX4 13, w ∈ wsX4_nearestWaiting := fun _ h => List.mem_cons_of_mem _ (List.mem_append_left _ (List.mem_append_right _ h))
  refine lv_iconst (v := (-1)) hx hb dX4_nearestWaiting_0 (by decide) ?_
  refine lv_istore_n (lv' := [(3, .int (-1)), (0, .ref h0), (1, .int p0), (2, .int p1)]) hx hb dX4_nearestWaiting_1 rfl hl (by decide) rfl (fun ls hl => ?_)
  refine lv_iconst (v := 0) hx hb dX4_nearestWaiting_2 (by decide) ?_
  refine lv_istore (lv' := [(4, .int 0), (3, .int (-1)), (0, .ref h0), (1, .int p0), (2, .int p1)]) hx hb dX4_nearestWaiting_3 hl (by decide) rfl (fun ls hl => ?_)
  refine lv_iconst (v := 0) hx hb dX4_nearestWaiting_5 (by decide) ?_
  refine lv_istore (lv' := [(5, .int 0), (4, .int 0), (3, .int (-1)), (0, .ref h0), (1, .int p0), (2, .int p1)]) hx hb dX4_nearestWaiting_6 hl (by decide) rfl (fun ls hl => ?_)
  replace hl : lv_has _ 8 [(5, .int (nI 0)), (4, .int 0), (3, .int (-1)), (0, .ref h0), (1, .int p0), (2, .int p1)] := hl
  replace hw : kW D (kty cI cC cJ cG) s (va_A [(h0, .inr (4, [.ref q1, .int (nI G), .int mw, .int mg, .int ch, .int up, .ref q2, .ref q3, .ref q4, .ref q5, .int sh, .int bk, .long st])), (q1, .inl (cI, 6, .inl we)), (q2, .inr (3, [.ref o1, .ref o2, .ref o3, .ref o4, .int (nI k)])), (o1, .inl (cI, 10, .inl og)), (o4, .inl (cI, 10, .inl ol))] s.heap.size) [(h0, .inr (4, [.ref q1, .int (nI G), .int mw, .int mg, .int ch, .int up, .ref q2, .ref q3, .ref q4, .ref q5, .int sh, .int bk, .long st])), (q1, .inl (cI, 6, .inl we)), (q2, .inr (3, [.ref o1, .ref o2, .ref o3, .ref o4, .int (nI k)])), (o1, .inl (cI, 10, .inl og)), (o4, .inl (cI, 10, .inl ol))] H locs := hw
  revert hl; revert hw; revert ls; revert locs; revert H
  refine k_loop (fun ((i, fo, le) : (Nat) × (Int32) × (Int32)) => i ≤ G ∧ fo = f_near we (f_op og ol k) p0 p1 i ∧ (fo = -1 ∨ le = f_dist we p0 p1 fo.toNatClampNeg)) (fun ((i, fo, le) : (Nat) × (Int32) × (Int32)) => G - i) (fun ((i, fo, le) : (Nat) × (Int32) × (Int32)) => [(h0, .inr (4, [.ref q1, .int (nI G), .int mw, .int mg, .int ch, .int up, .ref q2, .ref q3, .ref q4, .ref q5, .int sh, .int bk, .long st])), (q1, .inl (cI, 6, .inl we)), (q2, .inr (3, [.ref o1, .ref o2, .ref o3, .ref o4, .int (nI k)])), (o1, .inl (cI, 10, .inl og)), (o4, .inl (cI, 10, .inl ol))]) (fun ((i, fo, le) : (Nat) × (Int32) × (Int32)) => [(5, .int (nI i)), (4, .int le), (3, .int fo), (0, .ref h0), (1, .int p0), (2, .int p1)]) (0, (-1), 0) (show (0 : Nat) ≤ G ∧ ((-1) : Int32) = f_near we (f_op og ol k) p0 p1 (0 : Nat) ∧ (((-1) : Int32) = -1 ∨ (0 : Int32) = f_dist we p0 p1 ((-1) : Int32).toNatClampNeg) from ⟨Nat.zero_le _, rfl, Or.inl rfl⟩) ?_
  intro ⟨i, fo, le⟩ hI ih8 H locs ls hw hl
  replace hI : i ≤ G ∧ fo = f_near we (f_op og ol k) p0 p1 i ∧ (fo = -1 ∨ le = f_dist we p0 p1 fo.toNatClampNeg) := hI
  replace hw : kW D (kty cI cC cJ cG) s (va_A [(h0, .inr (4, [.ref q1, .int (nI G), .int mw, .int mg, .int ch, .int up, .ref q2, .ref q3, .ref q4, .ref q5, .int sh, .int bk, .long st])), (q1, .inl (cI, 6, .inl we)), (q2, .inr (3, [.ref o1, .ref o2, .ref o3, .ref o4, .int (nI k)])), (o1, .inl (cI, 10, .inl og)), (o4, .inl (cI, 10, .inl ol))] s.heap.size) [(h0, .inr (4, [.ref q1, .int (nI G), .int mw, .int mg, .int ch, .int up, .ref q2, .ref q3, .ref q4, .ref q5, .int sh, .int bk, .long st])), (q1, .inl (cI, 6, .inl we)), (q2, .inr (3, [.ref o1, .ref o2, .ref o3, .ref o4, .int (nI k)])), (o1, .inl (cI, 10, .inl og)), (o4, .inl (cI, 10, .inl ol))] H locs := hw
  replace hl : lv_has ls 8 [(5, .int (nI i)), (4, .int le), (3, .int fo), (0, .ref h0), (1, .int p0), (2, .int p1)] := hl
  refine lv_iload hx hb dX4_nearestWaiting_8 (lv_at hl 0 rfl) ?_
  refine lv_aload_n hx hb dX4_nearestWaiting_10 rfl (lv_at hl 3 rfl) ?_
  refine k_get hx hb hts i_X4 hown hw 0 1 rfl rfl (by decide) k_f70 rfl dX4_nearestWaiting_11 ?_
  refine lv_icmp_ge (tgt := 98) hx hb dX4_nearestWaiting_14 (by decide) (fun c14 => ?_) (fun c14 => ?_)
  · have hi : G ≤ i := k_le c14 (by omega) (by omega)
    refine lv_iload_n hx hb dX4_nearestWaiting_98 rfl (lv_at hl 2 rfl) ?_
    exact k_iret () hx hb hr hlocks hw (show fo = f_near we (f_op og ol k) p0 p1 G from by rw [hI.2.1, show i = G by omega]) dX4_nearestWaiting_99
  · have hi : i < G := k_lt c14 (by omega) (by omega)
    refine lv_iload_n hx hb dX4_nearestWaiting_17 rfl (lv_at hl 5 rfl) ?_
    refine lv_if_eq (tgt := 33) hx hb dX4_nearestWaiting_18 (by decide) (fun c18 => ?_) (fun c18 => ?_)
    · refine lv_iload_n hx hb dX4_nearestWaiting_33 rfl (lv_at hl 4 rfl) ?_
      refine lv_aload_n hx hb dX4_nearestWaiting_34 rfl (lv_at hl 3 rfl) ?_
      refine k_get hx hb hts i_X4 hown hw 0 0 rfl rfl (by decide) k_f9 rfl dX4_nearestWaiting_35 ?_
      refine lv_iload hx hb dX4_nearestWaiting_38 (lv_at hl 0 rfl) ?_
      refine k_iald hx hb hw 1 0 rfl rfl i rfl (by omega) (Nat.le_of_ble_eq_true rfl) dX4_nearestWaiting_40 ?_
      refine lv_isub hx hb dX4_nearestWaiting_41 ?_
      refine lv_istore (lv' := [(6, .int (p0 - (we i))), (5, .int (nI i)), (4, .int le), (3, .int fo), (0, .ref h0), (1, .int p0), (2, .int p1)]) hx hb dX4_nearestWaiting_42 hl (by decide) rfl (fun ls hl => ?_)
      refine lv_iload hx hb dX4_nearestWaiting_44 (lv_at hl 0 rfl) ?_
      refine lv_if_le (tgt := 65) hx hb dX4_nearestWaiting_46 (by decide) (fun c46 => ?_) (fun c46 => ?_)
      · refine lv_iconst (v := 0) hx hb dX4_nearestWaiting_65 (by decide) ?_
        refine lv_istore (lv' := [(7, .int 0), (6, .int (p0 - (we i))), (5, .int (nI i)), (4, .int le), (3, .int fo), (0, .ref h0), (1, .int p0), (2, .int p1)]) hx hb dX4_nearestWaiting_66 hl (by decide) rfl (fun ls hl => ?_)
        refine lv_iload hx hb dX4_nearestWaiting_68 (lv_at hl 0 rfl) ?_
        refine lv_if_eq (tgt := 92) hx hb dX4_nearestWaiting_70 (by decide) (fun _ => ?_) (fun h => absurd h (by decide))
        refine lv_iinc (v := nI (i + 1)) (lv' := [(5, .int (nI (i + 1))), (7, .int 0), (6, .int (p0 - (we i))), (4, .int le), (3, .int fo), (0, .ref h0), (1, .int p0), (2, .int p1)]) hx hb dX4_nearestWaiting_92 hl (k := 2) rfl (nI_1 i) (by decide) rfl (fun ls hl => ?_)
        refine lv_goto (tgt := 8) hx hb dX4_nearestWaiting_95 (by decide) ?_
        have e1 : f_dist we p0 p1 i = p0 - we i := if_pos c18
        exact ih8 ((i + 1), fo, le) _ _ _ (show (i + 1) ≤ G ∧ fo = f_near we (f_op og ol k) p0 p1 (i + 1) ∧ (fo = -1 ∨ le = f_dist we p0 p1 fo.toNatClampNeg) from ⟨by omega, by rw [f_near, if_neg (fun h => absurd h.1.1 (by rw [e1]; exact Int32.not_lt.mpr c46))]; exact hI.2.1, hI.2.2⟩) (show G - (i + 1) < G - i from by omega) hw (lv_sub hl [0, 3, 4, 5, 6, 7] rfl)
      · refine lv_iload_n hx hb dX4_nearestWaiting_49 rfl (lv_at hl 3 rfl) ?_
        refine lv_iconst (v := (-1)) hx hb dX4_nearestWaiting_50 (by decide) ?_
        refine lv_icmp_eq (tgt := 61) hx hb dX4_nearestWaiting_51 (by decide) (fun c51 => ?_) (fun c51 => ?_)
        · refine lv_iconst (v := 1) hx hb dX4_nearestWaiting_61 (by decide) ?_
          refine lv_goto (tgt := 66) hx hb dX4_nearestWaiting_62 (by decide) ?_
          refine lv_istore (lv' := [(7, .int 1), (6, .int (p0 - (we i))), (5, .int (nI i)), (4, .int le), (3, .int fo), (0, .ref h0), (1, .int p0), (2, .int p1)]) hx hb dX4_nearestWaiting_66 hl (by decide) rfl (fun ls hl => ?_)
          refine lv_iload hx hb dX4_nearestWaiting_68 (lv_at hl 0 rfl) ?_
          refine lv_if_eq (tgt := 92) hx hb dX4_nearestWaiting_70 (by decide) (fun h => absurd h (by decide)) (fun _ => ?_)
          refine lv_aload_n hx hb dX4_nearestWaiting_73 rfl (lv_at hl 5 rfl) ?_
          refine k_get hx hb hts i_X4 hown hw 0 6 rfl rfl (by decide) k_f27 rfl dX4_nearestWaiting_74 ?_
          refine lv_iload hx hb dX4_nearestWaiting_77 (lv_at hl 2 rfl) ?_
          refine k_calli (wr := [(h0, .inr (4, [.ref q1, .int (nI G), .int mw, .int mg, .int ch, .int up, .ref q2, .ref q3, .ref q4, .ref q5, .int sh, .int bk, .long st])), (q1, .inl (cI, 6, .inl we))]) (k_runV (wc := [(q2, .inr (3, [.ref o1, .ref o2, .ref o3, .ref o4, .int (nI k)])), (o1, .inl (cI, 10, .inl og)), (o4, .inl (cI, 10, .inl ol))]) (As := [.int (nI i)]) (rest := []) ⟨hx, hb, hml, hown, hts⟩ (c_X3_rollsLacking l D cI cC cJ cG q2 o1 o4 H.size o2 o3 k og ol (nI i) hk) (cwV 1 hts gX4_nearestWaiting_X3_rollsLacking rfl rfl rfl (by decide +kernel) ⟨Nat.le_of_ble_eq_true rfl, Nat.le_of_ble_eq_true rfl⟩) hw [2, 3, 4] (by decide) rfl 2 rfl rfl rfl hl.1 rfl (Nat.le_of_ble_eq_true rfl) dX4_nearestWaiting_79 ⟨Nat.zero_le _, Nat.zero_le _⟩) hw [2, 3, 4] [0, 1] rfl rfl (by decide) (by decide) (fun r79 u79 H locs w79 hw => ?_)
          replace hw : kW D (kty cI cC cJ cG) s (va_A [(h0, .inr (4, [.ref q1, .int (nI G), .int mw, .int mg, .int ch, .int up, .ref q2, .ref q3, .ref q4, .ref q5, .int sh, .int bk, .long st])), (q1, .inl (cI, 6, .inl we)), (q2, .inr (3, [.ref o1, .ref o2, .ref o3, .ref o4, .int (nI k)])), (o1, .inl (cI, 10, .inl og)), (o4, .inl (cI, 10, .inl ol))] s.heap.size) [(h0, .inr (4, [.ref q1, .int (nI G), .int mw, .int mg, .int ch, .int up, .ref q2, .ref q3, .ref q4, .ref q5, .int sh, .int bk, .long st])), (q1, .inl (cI, 6, .inl we)), (q2, .inr (3, [.ref o1, .ref o2, .ref o3, .ref o4, .int (nI k)])), (o1, .inl (cI, 10, .inl og)), (o4, .inl (cI, 10, .inl ol))] H locs := hw
          replace w79 : r79 = f_rl og ol (nI i) k := w79
          refine lv_if_le (tgt := 92) hx hb dX4_nearestWaiting_82 (by decide) (fun c82 => ?_) (fun c82 => ?_)
          · refine lv_iinc (v := nI (i + 1)) (lv' := [(5, .int (nI (i + 1))), (7, .int 1), (6, .int (p0 - (we i))), (4, .int le), (3, .int fo), (0, .ref h0), (1, .int p0), (2, .int p1)]) hx hb dX4_nearestWaiting_92 hl (k := 2) rfl (nI_1 i) (by decide) rfl (fun ls hl => ?_)
            refine lv_goto (tgt := 8) hx hb dX4_nearestWaiting_95 (by decide) ?_
            have e1 : f_dist we p0 p1 i = p0 - we i := if_pos c18
            exact ih8 ((i + 1), fo, le) _ _ _ (show (i + 1) ≤ G ∧ fo = f_near we (f_op og ol k) p0 p1 (i + 1) ∧ (fo = -1 ∨ le = f_dist we p0 p1 fo.toNatClampNeg) from ⟨by omega, by rw [f_near, if_neg (fun h => absurd (of_decide_eq_true h.2) (by rw [← w79]; exact Int32.not_lt.mpr c82))]; exact hI.2.1, hI.2.2⟩) (show G - (i + 1) < G - i from by omega) hw (lv_sub hl [0, 3, 4, 5, 6, 7] rfl)
          · refine lv_iload hx hb dX4_nearestWaiting_85 (lv_at hl 2 rfl) ?_
            refine lv_istore_n (lv' := [(3, .int (nI i)), (7, .int 1), (6, .int (p0 - (we i))), (5, .int (nI i)), (4, .int le), (0, .ref h0), (1, .int p0), (2, .int p1)]) hx hb dX4_nearestWaiting_87 rfl hl (by decide) rfl (fun ls hl => ?_)
            refine lv_iload hx hb dX4_nearestWaiting_88 (lv_at hl 2 rfl) ?_
            refine lv_istore (lv' := [(4, .int (p0 - (we i))), (3, .int (nI i)), (7, .int 1), (6, .int (p0 - (we i))), (5, .int (nI i)), (0, .ref h0), (1, .int p0), (2, .int p1)]) hx hb dX4_nearestWaiting_90 hl (by decide) rfl (fun ls hl => ?_)
            refine lv_iinc (v := nI (i + 1)) (lv' := [(5, .int (nI (i + 1))), (4, .int (p0 - (we i))), (3, .int (nI i)), (7, .int 1), (6, .int (p0 - (we i))), (0, .ref h0), (1, .int p0), (2, .int p1)]) hx hb dX4_nearestWaiting_92 hl (k := 4) rfl (nI_1 i) (by decide) rfl (fun ls hl => ?_)
            refine lv_goto (tgt := 8) hx hb dX4_nearestWaiting_95 (by decide) ?_
            have e1 : f_dist we p0 p1 i = p0 - we i := if_pos c18
            exact ih8 ((i + 1), nI i, p0 - (we i)) _ _ _ (show (i + 1) ≤ G ∧ (nI i) = f_near we (f_op og ol k) p0 p1 (i + 1) ∧ ((nI i) = -1 ∨ (p0 - (we i)) = f_dist we p0 p1 (nI i).toNatClampNeg) from ⟨by omega, by rw [f_near, if_pos ⟨⟨by rw [e1]; exact Int32.not_le.mp c46, Or.inl (hI.2.1.symm.trans c51)⟩, decide_eq_true (by rw [← w79]; exact Int32.not_le.mp c82)⟩], Or.inr (by rw [nI_clamp (by omega), e1])⟩) (show G - (i + 1) < G - i from by omega) hw (lv_sub hl [0, 1, 2, 5, 6, 7] rfl)
        · refine lv_iload hx hb dX4_nearestWaiting_54 (lv_at hl 0 rfl) ?_
          refine lv_iload hx hb dX4_nearestWaiting_56 (lv_at hl 2 rfl) ?_
          refine lv_icmp_ge (tgt := 65) hx hb dX4_nearestWaiting_58 (by decide) (fun c58 => ?_) (fun c58 => ?_)
          · refine lv_iconst (v := 0) hx hb dX4_nearestWaiting_65 (by decide) ?_
            refine lv_istore (lv' := [(7, .int 0), (6, .int (p0 - (we i))), (5, .int (nI i)), (4, .int le), (3, .int fo), (0, .ref h0), (1, .int p0), (2, .int p1)]) hx hb dX4_nearestWaiting_66 hl (by decide) rfl (fun ls hl => ?_)
            refine lv_iload hx hb dX4_nearestWaiting_68 (lv_at hl 0 rfl) ?_
            refine lv_if_eq (tgt := 92) hx hb dX4_nearestWaiting_70 (by decide) (fun _ => ?_) (fun h => absurd h (by decide))
            refine lv_iinc (v := nI (i + 1)) (lv' := [(5, .int (nI (i + 1))), (7, .int 0), (6, .int (p0 - (we i))), (4, .int le), (3, .int fo), (0, .ref h0), (1, .int p0), (2, .int p1)]) hx hb dX4_nearestWaiting_92 hl (k := 2) rfl (nI_1 i) (by decide) rfl (fun ls hl => ?_)
            refine lv_goto (tgt := 8) hx hb dX4_nearestWaiting_95 (by decide) ?_
            have e1 : f_dist we p0 p1 i = p0 - we i := if_pos c18
            exact ih8 ((i + 1), fo, le) _ _ _ (show (i + 1) ≤ G ∧ fo = f_near we (f_op og ol k) p0 p1 (i + 1) ∧ (fo = -1 ∨ le = f_dist we p0 p1 fo.toNatClampNeg) from ⟨by omega, by rw [f_near, if_neg (fun h => h.1.2.elim (fun q => c51 (hI.2.1.trans q)) (fun q => absurd q (by rw [e1, ← hI.2.1, ← hI.2.2.resolve_left c51]; exact Int32.not_lt.mpr c58)))]; exact hI.2.1, hI.2.2⟩) (show G - (i + 1) < G - i from by omega) hw (lv_sub hl [0, 3, 4, 5, 6, 7] rfl)
          · refine lv_iconst (v := 1) hx hb dX4_nearestWaiting_61 (by decide) ?_
            refine lv_goto (tgt := 66) hx hb dX4_nearestWaiting_62 (by decide) ?_
            refine lv_istore (lv' := [(7, .int 1), (6, .int (p0 - (we i))), (5, .int (nI i)), (4, .int le), (3, .int fo), (0, .ref h0), (1, .int p0), (2, .int p1)]) hx hb dX4_nearestWaiting_66 hl (by decide) rfl (fun ls hl => ?_)
            refine lv_iload hx hb dX4_nearestWaiting_68 (lv_at hl 0 rfl) ?_
            refine lv_if_eq (tgt := 92) hx hb dX4_nearestWaiting_70 (by decide) (fun h => absurd h (by decide)) (fun _ => ?_)
            refine lv_aload_n hx hb dX4_nearestWaiting_73 rfl (lv_at hl 5 rfl) ?_
            refine k_get hx hb hts i_X4 hown hw 0 6 rfl rfl (by decide) k_f27 rfl dX4_nearestWaiting_74 ?_
            refine lv_iload hx hb dX4_nearestWaiting_77 (lv_at hl 2 rfl) ?_
            refine k_calli (wr := [(h0, .inr (4, [.ref q1, .int (nI G), .int mw, .int mg, .int ch, .int up, .ref q2, .ref q3, .ref q4, .ref q5, .int sh, .int bk, .long st])), (q1, .inl (cI, 6, .inl we))]) (k_runV (wc := [(q2, .inr (3, [.ref o1, .ref o2, .ref o3, .ref o4, .int (nI k)])), (o1, .inl (cI, 10, .inl og)), (o4, .inl (cI, 10, .inl ol))]) (As := [.int (nI i)]) (rest := []) ⟨hx, hb, hml, hown, hts⟩ (c_X3_rollsLacking l D cI cC cJ cG q2 o1 o4 H.size o2 o3 k og ol (nI i) hk) (cwV 1 hts gX4_nearestWaiting_X3_rollsLacking rfl rfl rfl (by decide +kernel) ⟨Nat.le_of_ble_eq_true rfl, Nat.le_of_ble_eq_true rfl⟩) hw [2, 3, 4] (by decide) rfl 2 rfl rfl rfl hl.1 rfl (Nat.le_of_ble_eq_true rfl) dX4_nearestWaiting_79 ⟨Nat.zero_le _, Nat.zero_le _⟩) hw [2, 3, 4] [0, 1] rfl rfl (by decide) (by decide) (fun r79 u79 H locs w79 hw => ?_)
            replace hw : kW D (kty cI cC cJ cG) s (va_A [(h0, .inr (4, [.ref q1, .int (nI G), .int mw, .int mg, .int ch, .int up, .ref q2, .ref q3, .ref q4, .ref q5, .int sh, .int bk, .long st])), (q1, .inl (cI, 6, .inl we)), (q2, .inr (3, [.ref o1, .ref o2, .ref o3, .ref o4, .int (nI k)])), (o1, .inl (cI, 10, .inl og)), (o4, .inl (cI, 10, .inl ol))] s.heap.size) [(h0, .inr (4, [.ref q1, .int (nI G), .int mw, .int mg, .int ch, .int up, .ref q2, .ref q3, .ref q4, .ref q5, .int sh, .int bk, .long st])), (q1, .inl (cI, 6, .inl we)), (q2, .inr (3, [.ref o1, .ref o2, .ref o3, .ref o4, .int (nI k)])), (o1, .inl (cI, 10, .inl og)), (o4, .inl (cI, 10, .inl ol))] H locs := hw
            replace w79 : r79 = f_rl og ol (nI i) k := w79
            refine lv_if_le (tgt := 92) hx hb dX4_nearestWaiting_82 (by decide) (fun c82 => ?_) (fun c82 => ?_)
            · refine lv_iinc (v := nI (i + 1)) (lv' := [(5, .int (nI (i + 1))), (7, .int 1), (6, .int (p0 - (we i))), (4, .int le), (3, .int fo), (0, .ref h0), (1, .int p0), (2, .int p1)]) hx hb dX4_nearestWaiting_92 hl (k := 2) rfl (nI_1 i) (by decide) rfl (fun ls hl => ?_)
              refine lv_goto (tgt := 8) hx hb dX4_nearestWaiting_95 (by decide) ?_
              have e1 : f_dist we p0 p1 i = p0 - we i := if_pos c18
              exact ih8 ((i + 1), fo, le) _ _ _ (show (i + 1) ≤ G ∧ fo = f_near we (f_op og ol k) p0 p1 (i + 1) ∧ (fo = -1 ∨ le = f_dist we p0 p1 fo.toNatClampNeg) from ⟨by omega, by rw [f_near, if_neg (fun h => absurd (of_decide_eq_true h.2) (by rw [← w79]; exact Int32.not_lt.mpr c82))]; exact hI.2.1, hI.2.2⟩) (show G - (i + 1) < G - i from by omega) hw (lv_sub hl [0, 3, 4, 5, 6, 7] rfl)
            · refine lv_iload hx hb dX4_nearestWaiting_85 (lv_at hl 2 rfl) ?_
              refine lv_istore_n (lv' := [(3, .int (nI i)), (7, .int 1), (6, .int (p0 - (we i))), (5, .int (nI i)), (4, .int le), (0, .ref h0), (1, .int p0), (2, .int p1)]) hx hb dX4_nearestWaiting_87 rfl hl (by decide) rfl (fun ls hl => ?_)
              refine lv_iload hx hb dX4_nearestWaiting_88 (lv_at hl 2 rfl) ?_
              refine lv_istore (lv' := [(4, .int (p0 - (we i))), (3, .int (nI i)), (7, .int 1), (6, .int (p0 - (we i))), (5, .int (nI i)), (0, .ref h0), (1, .int p0), (2, .int p1)]) hx hb dX4_nearestWaiting_90 hl (by decide) rfl (fun ls hl => ?_)
              refine lv_iinc (v := nI (i + 1)) (lv' := [(5, .int (nI (i + 1))), (4, .int (p0 - (we i))), (3, .int (nI i)), (7, .int 1), (6, .int (p0 - (we i))), (0, .ref h0), (1, .int p0), (2, .int p1)]) hx hb dX4_nearestWaiting_92 hl (k := 4) rfl (nI_1 i) (by decide) rfl (fun ls hl => ?_)
              refine lv_goto (tgt := 8) hx hb dX4_nearestWaiting_95 (by decide) ?_
              have e1 : f_dist we p0 p1 i = p0 - we i := if_pos c18
              exact ih8 ((i + 1), nI i, p0 - (we i)) _ _ _ (show (i + 1) ≤ G ∧ (nI i) = f_near we (f_op og ol k) p0 p1 (i + 1) ∧ ((nI i) = -1 ∨ (p0 - (we i)) = f_dist we p0 p1 (nI i).toNatClampNeg) from ⟨by omega, by rw [f_near, if_pos ⟨⟨by rw [e1]; exact Int32.not_le.mp c46, Or.inr (by rw [e1, ← hI.2.1, ← hI.2.2.resolve_left c51]; exact Int32.not_le.mp c58)⟩, decide_eq_true (by rw [← w79]; exact Int32.not_le.mp c82)⟩], Or.inr (by rw [nI_clamp (by omega), e1])⟩) (show G - (i + 1) < G - i from by omega) hw (lv_sub hl [0, 1, 2, 5, 6, 7] rfl)
    · refine lv_aload_n hx hb dX4_nearestWaiting_21 rfl (lv_at hl 3 rfl) ?_
      refine k_get hx hb hts i_X4 hown hw 0 0 rfl rfl (by decide) k_f9 rfl dX4_nearestWaiting_22 ?_
      refine lv_iload hx hb dX4_nearestWaiting_25 (lv_at hl 0 rfl) ?_
      refine k_iald hx hb hw 1 0 rfl rfl i rfl (by omega) (Nat.le_of_ble_eq_true rfl) dX4_nearestWaiting_27 ?_
      refine lv_iload_n hx hb dX4_nearestWaiting_28 rfl (lv_at hl 4 rfl) ?_
      refine lv_isub hx hb dX4_nearestWaiting_29 ?_
      refine lv_goto (tgt := 42) hx hb dX4_nearestWaiting_30 (by decide) ?_
      refine lv_istore (lv' := [(6, .int ((we i) - p0)), (5, .int (nI i)), (4, .int le), (3, .int fo), (0, .ref h0), (1, .int p0), (2, .int p1)]) hx hb dX4_nearestWaiting_42 hl (by decide) rfl (fun ls hl => ?_)
      refine lv_iload hx hb dX4_nearestWaiting_44 (lv_at hl 0 rfl) ?_
      refine lv_if_le (tgt := 65) hx hb dX4_nearestWaiting_46 (by decide) (fun c46 => ?_) (fun c46 => ?_)
      · refine lv_iconst (v := 0) hx hb dX4_nearestWaiting_65 (by decide) ?_
        refine lv_istore (lv' := [(7, .int 0), (6, .int ((we i) - p0)), (5, .int (nI i)), (4, .int le), (3, .int fo), (0, .ref h0), (1, .int p0), (2, .int p1)]) hx hb dX4_nearestWaiting_66 hl (by decide) rfl (fun ls hl => ?_)
        refine lv_iload hx hb dX4_nearestWaiting_68 (lv_at hl 0 rfl) ?_
        refine lv_if_eq (tgt := 92) hx hb dX4_nearestWaiting_70 (by decide) (fun _ => ?_) (fun h => absurd h (by decide))
        refine lv_iinc (v := nI (i + 1)) (lv' := [(5, .int (nI (i + 1))), (7, .int 0), (6, .int ((we i) - p0)), (4, .int le), (3, .int fo), (0, .ref h0), (1, .int p0), (2, .int p1)]) hx hb dX4_nearestWaiting_92 hl (k := 2) rfl (nI_1 i) (by decide) rfl (fun ls hl => ?_)
        refine lv_goto (tgt := 8) hx hb dX4_nearestWaiting_95 (by decide) ?_
        have e1 : f_dist we p0 p1 i = we i - p0 := if_neg c18
        exact ih8 ((i + 1), fo, le) _ _ _ (show (i + 1) ≤ G ∧ fo = f_near we (f_op og ol k) p0 p1 (i + 1) ∧ (fo = -1 ∨ le = f_dist we p0 p1 fo.toNatClampNeg) from ⟨by omega, by rw [f_near, if_neg (fun h => absurd h.1.1 (by rw [e1]; exact Int32.not_lt.mpr c46))]; exact hI.2.1, hI.2.2⟩) (show G - (i + 1) < G - i from by omega) hw (lv_sub hl [0, 3, 4, 5, 6, 7] rfl)
      · refine lv_iload_n hx hb dX4_nearestWaiting_49 rfl (lv_at hl 3 rfl) ?_
        refine lv_iconst (v := (-1)) hx hb dX4_nearestWaiting_50 (by decide) ?_
        refine lv_icmp_eq (tgt := 61) hx hb dX4_nearestWaiting_51 (by decide) (fun c51 => ?_) (fun c51 => ?_)
        · refine lv_iconst (v := 1) hx hb dX4_nearestWaiting_61 (by decide) ?_
          refine lv_goto (tgt := 66) hx hb dX4_nearestWaiting_62 (by decide) ?_
          refine lv_istore (lv' := [(7, .int 1), (6, .int ((we i) - p0)), (5, .int (nI i)), (4, .int le), (3, .int fo), (0, .ref h0), (1, .int p0), (2, .int p1)]) hx hb dX4_nearestWaiting_66 hl (by decide) rfl (fun ls hl => ?_)
          refine lv_iload hx hb dX4_nearestWaiting_68 (lv_at hl 0 rfl) ?_
          refine lv_if_eq (tgt := 92) hx hb dX4_nearestWaiting_70 (by decide) (fun h => absurd h (by decide)) (fun _ => ?_)
          refine lv_aload_n hx hb dX4_nearestWaiting_73 rfl (lv_at hl 5 rfl) ?_
          refine k_get hx hb hts i_X4 hown hw 0 6 rfl rfl (by decide) k_f27 rfl dX4_nearestWaiting_74 ?_
          refine lv_iload hx hb dX4_nearestWaiting_77 (lv_at hl 2 rfl) ?_
          refine k_calli (wr := [(h0, .inr (4, [.ref q1, .int (nI G), .int mw, .int mg, .int ch, .int up, .ref q2, .ref q3, .ref q4, .ref q5, .int sh, .int bk, .long st])), (q1, .inl (cI, 6, .inl we))]) (k_runV (wc := [(q2, .inr (3, [.ref o1, .ref o2, .ref o3, .ref o4, .int (nI k)])), (o1, .inl (cI, 10, .inl og)), (o4, .inl (cI, 10, .inl ol))]) (As := [.int (nI i)]) (rest := []) ⟨hx, hb, hml, hown, hts⟩ (c_X3_rollsLacking l D cI cC cJ cG q2 o1 o4 H.size o2 o3 k og ol (nI i) hk) (cwV 1 hts gX4_nearestWaiting_X3_rollsLacking rfl rfl rfl (by decide +kernel) ⟨Nat.le_of_ble_eq_true rfl, Nat.le_of_ble_eq_true rfl⟩) hw [2, 3, 4] (by decide) rfl 2 rfl rfl rfl hl.1 rfl (Nat.le_of_ble_eq_true rfl) dX4_nearestWaiting_79 ⟨Nat.zero_le _, Nat.zero_le _⟩) hw [2, 3, 4] [0, 1] rfl rfl (by decide) (by decide) (fun r79 u79 H locs w79 hw => ?_)
          replace hw : kW D (kty cI cC cJ cG) s (va_A [(h0, .inr (4, [.ref q1, .int (nI G), .int mw, .int mg, .int ch, .int up, .ref q2, .ref q3, .ref q4, .ref q5, .int sh, .int bk, .long st])), (q1, .inl (cI, 6, .inl we)), (q2, .inr (3, [.ref o1, .ref o2, .ref o3, .ref o4, .int (nI k)])), (o1, .inl (cI, 10, .inl og)), (o4, .inl (cI, 10, .inl ol))] s.heap.size) [(h0, .inr (4, [.ref q1, .int (nI G), .int mw, .int mg, .int ch, .int up, .ref q2, .ref q3, .ref q4, .ref q5, .int sh, .int bk, .long st])), (q1, .inl (cI, 6, .inl we)), (q2, .inr (3, [.ref o1, .ref o2, .ref o3, .ref o4, .int (nI k)])), (o1, .inl (cI, 10, .inl og)), (o4, .inl (cI, 10, .inl ol))] H locs := hw
          replace w79 : r79 = f_rl og ol (nI i) k := w79
          refine lv_if_le (tgt := 92) hx hb dX4_nearestWaiting_82 (by decide) (fun c82 => ?_) (fun c82 => ?_)
          · refine lv_iinc (v := nI (i + 1)) (lv' := [(5, .int (nI (i + 1))), (7, .int 1), (6, .int ((we i) - p0)), (4, .int le), (3, .int fo), (0, .ref h0), (1, .int p0), (2, .int p1)]) hx hb dX4_nearestWaiting_92 hl (k := 2) rfl (nI_1 i) (by decide) rfl (fun ls hl => ?_)
            refine lv_goto (tgt := 8) hx hb dX4_nearestWaiting_95 (by decide) ?_
            have e1 : f_dist we p0 p1 i = we i - p0 := if_neg c18
            exact ih8 ((i + 1), fo, le) _ _ _ (show (i + 1) ≤ G ∧ fo = f_near we (f_op og ol k) p0 p1 (i + 1) ∧ (fo = -1 ∨ le = f_dist we p0 p1 fo.toNatClampNeg) from ⟨by omega, by rw [f_near, if_neg (fun h => absurd (of_decide_eq_true h.2) (by rw [← w79]; exact Int32.not_lt.mpr c82))]; exact hI.2.1, hI.2.2⟩) (show G - (i + 1) < G - i from by omega) hw (lv_sub hl [0, 3, 4, 5, 6, 7] rfl)
          · refine lv_iload hx hb dX4_nearestWaiting_85 (lv_at hl 2 rfl) ?_
            refine lv_istore_n (lv' := [(3, .int (nI i)), (7, .int 1), (6, .int ((we i) - p0)), (5, .int (nI i)), (4, .int le), (0, .ref h0), (1, .int p0), (2, .int p1)]) hx hb dX4_nearestWaiting_87 rfl hl (by decide) rfl (fun ls hl => ?_)
            refine lv_iload hx hb dX4_nearestWaiting_88 (lv_at hl 2 rfl) ?_
            refine lv_istore (lv' := [(4, .int ((we i) - p0)), (3, .int (nI i)), (7, .int 1), (6, .int ((we i) - p0)), (5, .int (nI i)), (0, .ref h0), (1, .int p0), (2, .int p1)]) hx hb dX4_nearestWaiting_90 hl (by decide) rfl (fun ls hl => ?_)
            refine lv_iinc (v := nI (i + 1)) (lv' := [(5, .int (nI (i + 1))), (4, .int ((we i) - p0)), (3, .int (nI i)), (7, .int 1), (6, .int ((we i) - p0)), (0, .ref h0), (1, .int p0), (2, .int p1)]) hx hb dX4_nearestWaiting_92 hl (k := 4) rfl (nI_1 i) (by decide) rfl (fun ls hl => ?_)
            refine lv_goto (tgt := 8) hx hb dX4_nearestWaiting_95 (by decide) ?_
            have e1 : f_dist we p0 p1 i = we i - p0 := if_neg c18
            exact ih8 ((i + 1), nI i, (we i) - p0) _ _ _ (show (i + 1) ≤ G ∧ (nI i) = f_near we (f_op og ol k) p0 p1 (i + 1) ∧ ((nI i) = -1 ∨ ((we i) - p0) = f_dist we p0 p1 (nI i).toNatClampNeg) from ⟨by omega, by rw [f_near, if_pos ⟨⟨by rw [e1]; exact Int32.not_le.mp c46, Or.inl (hI.2.1.symm.trans c51)⟩, decide_eq_true (by rw [← w79]; exact Int32.not_le.mp c82)⟩], Or.inr (by rw [nI_clamp (by omega), e1])⟩) (show G - (i + 1) < G - i from by omega) hw (lv_sub hl [0, 1, 2, 5, 6, 7] rfl)
        · refine lv_iload hx hb dX4_nearestWaiting_54 (lv_at hl 0 rfl) ?_
          refine lv_iload hx hb dX4_nearestWaiting_56 (lv_at hl 2 rfl) ?_
          refine lv_icmp_ge (tgt := 65) hx hb dX4_nearestWaiting_58 (by decide) (fun c58 => ?_) (fun c58 => ?_)
          · refine lv_iconst (v := 0) hx hb dX4_nearestWaiting_65 (by decide) ?_
            refine lv_istore (lv' := [(7, .int 0), (6, .int ((we i) - p0)), (5, .int (nI i)), (4, .int le), (3, .int fo), (0, .ref h0), (1, .int p0), (2, .int p1)]) hx hb dX4_nearestWaiting_66 hl (by decide) rfl (fun ls hl => ?_)
            refine lv_iload hx hb dX4_nearestWaiting_68 (lv_at hl 0 rfl) ?_
            refine lv_if_eq (tgt := 92) hx hb dX4_nearestWaiting_70 (by decide) (fun _ => ?_) (fun h => absurd h (by decide))
            refine lv_iinc (v := nI (i + 1)) (lv' := [(5, .int (nI (i + 1))), (7, .int 0), (6, .int ((we i) - p0)), (4, .int le), (3, .int fo), (0, .ref h0), (1, .int p0), (2, .int p1)]) hx hb dX4_nearestWaiting_92 hl (k := 2) rfl (nI_1 i) (by decide) rfl (fun ls hl => ?_)
            refine lv_goto (tgt := 8) hx hb dX4_nearestWaiting_95 (by decide) ?_
            have e1 : f_dist we p0 p1 i = we i - p0 := if_neg c18
            exact ih8 ((i + 1), fo, le) _ _ _ (show (i + 1) ≤ G ∧ fo = f_near we (f_op og ol k) p0 p1 (i + 1) ∧ (fo = -1 ∨ le = f_dist we p0 p1 fo.toNatClampNeg) from ⟨by omega, by rw [f_near, if_neg (fun h => h.1.2.elim (fun q => c51 (hI.2.1.trans q)) (fun q => absurd q (by rw [e1, ← hI.2.1, ← hI.2.2.resolve_left c51]; exact Int32.not_lt.mpr c58)))]; exact hI.2.1, hI.2.2⟩) (show G - (i + 1) < G - i from by omega) hw (lv_sub hl [0, 3, 4, 5, 6, 7] rfl)
          · refine lv_iconst (v := 1) hx hb dX4_nearestWaiting_61 (by decide) ?_
            refine lv_goto (tgt := 66) hx hb dX4_nearestWaiting_62 (by decide) ?_
            refine lv_istore (lv' := [(7, .int 1), (6, .int ((we i) - p0)), (5, .int (nI i)), (4, .int le), (3, .int fo), (0, .ref h0), (1, .int p0), (2, .int p1)]) hx hb dX4_nearestWaiting_66 hl (by decide) rfl (fun ls hl => ?_)
            refine lv_iload hx hb dX4_nearestWaiting_68 (lv_at hl 0 rfl) ?_
            refine lv_if_eq (tgt := 92) hx hb dX4_nearestWaiting_70 (by decide) (fun h => absurd h (by decide)) (fun _ => ?_)
            refine lv_aload_n hx hb dX4_nearestWaiting_73 rfl (lv_at hl 5 rfl) ?_
            refine k_get hx hb hts i_X4 hown hw 0 6 rfl rfl (by decide) k_f27 rfl dX4_nearestWaiting_74 ?_
            refine lv_iload hx hb dX4_nearestWaiting_77 (lv_at hl 2 rfl) ?_
            refine k_calli (wr := [(h0, .inr (4, [.ref q1, .int (nI G), .int mw, .int mg, .int ch, .int up, .ref q2, .ref q3, .ref q4, .ref q5, .int sh, .int bk, .long st])), (q1, .inl (cI, 6, .inl we))]) (k_runV (wc := [(q2, .inr (3, [.ref o1, .ref o2, .ref o3, .ref o4, .int (nI k)])), (o1, .inl (cI, 10, .inl og)), (o4, .inl (cI, 10, .inl ol))]) (As := [.int (nI i)]) (rest := []) ⟨hx, hb, hml, hown, hts⟩ (c_X3_rollsLacking l D cI cC cJ cG q2 o1 o4 H.size o2 o3 k og ol (nI i) hk) (cwV 1 hts gX4_nearestWaiting_X3_rollsLacking rfl rfl rfl (by decide +kernel) ⟨Nat.le_of_ble_eq_true rfl, Nat.le_of_ble_eq_true rfl⟩) hw [2, 3, 4] (by decide) rfl 2 rfl rfl rfl hl.1 rfl (Nat.le_of_ble_eq_true rfl) dX4_nearestWaiting_79 ⟨Nat.zero_le _, Nat.zero_le _⟩) hw [2, 3, 4] [0, 1] rfl rfl (by decide) (by decide) (fun r79 u79 H locs w79 hw => ?_)
            replace hw : kW D (kty cI cC cJ cG) s (va_A [(h0, .inr (4, [.ref q1, .int (nI G), .int mw, .int mg, .int ch, .int up, .ref q2, .ref q3, .ref q4, .ref q5, .int sh, .int bk, .long st])), (q1, .inl (cI, 6, .inl we)), (q2, .inr (3, [.ref o1, .ref o2, .ref o3, .ref o4, .int (nI k)])), (o1, .inl (cI, 10, .inl og)), (o4, .inl (cI, 10, .inl ol))] s.heap.size) [(h0, .inr (4, [.ref q1, .int (nI G), .int mw, .int mg, .int ch, .int up, .ref q2, .ref q3, .ref q4, .ref q5, .int sh, .int bk, .long st])), (q1, .inl (cI, 6, .inl we)), (q2, .inr (3, [.ref o1, .ref o2, .ref o3, .ref o4, .int (nI k)])), (o1, .inl (cI, 10, .inl og)), (o4, .inl (cI, 10, .inl ol))] H locs := hw
            replace w79 : r79 = f_rl og ol (nI i) k := w79
            refine lv_if_le (tgt := 92) hx hb dX4_nearestWaiting_82 (by decide) (fun c82 => ?_) (fun c82 => ?_)
            · refine lv_iinc (v := nI (i + 1)) (lv' := [(5, .int (nI (i + 1))), (7, .int 1), (6, .int ((we i) - p0)), (4, .int le), (3, .int fo), (0, .ref h0), (1, .int p0), (2, .int p1)]) hx hb dX4_nearestWaiting_92 hl (k := 2) rfl (nI_1 i) (by decide) rfl (fun ls hl => ?_)
              refine lv_goto (tgt := 8) hx hb dX4_nearestWaiting_95 (by decide) ?_
              have e1 : f_dist we p0 p1 i = we i - p0 := if_neg c18
              exact ih8 ((i + 1), fo, le) _ _ _ (show (i + 1) ≤ G ∧ fo = f_near we (f_op og ol k) p0 p1 (i + 1) ∧ (fo = -1 ∨ le = f_dist we p0 p1 fo.toNatClampNeg) from ⟨by omega, by rw [f_near, if_neg (fun h => absurd (of_decide_eq_true h.2) (by rw [← w79]; exact Int32.not_lt.mpr c82))]; exact hI.2.1, hI.2.2⟩) (show G - (i + 1) < G - i from by omega) hw (lv_sub hl [0, 3, 4, 5, 6, 7] rfl)
            · refine lv_iload hx hb dX4_nearestWaiting_85 (lv_at hl 2 rfl) ?_
              refine lv_istore_n (lv' := [(3, .int (nI i)), (7, .int 1), (6, .int ((we i) - p0)), (5, .int (nI i)), (4, .int le), (0, .ref h0), (1, .int p0), (2, .int p1)]) hx hb dX4_nearestWaiting_87 rfl hl (by decide) rfl (fun ls hl => ?_)
              refine lv_iload hx hb dX4_nearestWaiting_88 (lv_at hl 2 rfl) ?_
              refine lv_istore (lv' := [(4, .int ((we i) - p0)), (3, .int (nI i)), (7, .int 1), (6, .int ((we i) - p0)), (5, .int (nI i)), (0, .ref h0), (1, .int p0), (2, .int p1)]) hx hb dX4_nearestWaiting_90 hl (by decide) rfl (fun ls hl => ?_)
              refine lv_iinc (v := nI (i + 1)) (lv' := [(5, .int (nI (i + 1))), (4, .int ((we i) - p0)), (3, .int (nI i)), (7, .int 1), (6, .int ((we i) - p0)), (0, .ref h0), (1, .int p0), (2, .int p1)]) hx hb dX4_nearestWaiting_92 hl (k := 4) rfl (nI_1 i) (by decide) rfl (fun ls hl => ?_)
              refine lv_goto (tgt := 8) hx hb dX4_nearestWaiting_95 (by decide) ?_
              have e1 : f_dist we p0 p1 i = we i - p0 := if_neg c18
              exact ih8 ((i + 1), nI i, (we i) - p0) _ _ _ (show (i + 1) ≤ G ∧ (nI i) = f_near we (f_op og ol k) p0 p1 (i + 1) ∧ ((nI i) = -1 ∨ ((we i) - p0) = f_dist we p0 p1 (nI i).toNatClampNeg) from ⟨by omega, by rw [f_near, if_pos ⟨⟨by rw [e1]; exact Int32.not_le.mp c46, Or.inr (by rw [e1, ← hI.2.1, ← hI.2.2.resolve_left c51]; exact Int32.not_le.mp c58)⟩, decide_eq_true (by rw [← w79]; exact Int32.not_le.mp c82)⟩], Or.inr (by rw [nI_clamp (by omega), e1])⟩) (show G - (i + 1) < G - i from by omega) hw (lv_sub hl [0, 1, 2, 5, 6, 7] rfl)
