def S_search (l : Launch) (D : va_G) (cI cC cJ cG : ClassId) (k : Nat) : Prop := ∀ (h0 k1 k2 k3 k4 k5 : Nat) (sz : Nat) (k6 rm : Nat) (bs : Int32) (fb ft fw fm ff : Nat → Int32) (a lf sm : Nat) (cp w wf bv tv : Nat → Nat) (ha : a + k = 10) (hlf : lf ≤ 6) (hrm : rm ≤ 800) (hsm : sm ≤ rm) (hfw : ∀ j, j < 10 → fw j = nI (w j)) (hfm : ∀ j, j < 10 → fm j = nI (cp j)) (hff : ∀ j, j < 10 → ff j = nI (wf j)) (hwb : ∀ j, j < 10 → w j ≤ 400) (hcp : ∀ j, j < 10 → cp j ≤ 6) (hwf : ∀ j, j < 10 → wf j ≤ 400) (hbd : ∀ i j, i ≤ j → j < 10 → 0 < cp j → w j ≤ wf i) (hpos : ∀ j, j < 10 → 0 < cp j → 0 < w j) (hfb : ∀ j, j < 10 → fb j = nI (bv j)) (hft : ∀ j, j < a → ft j = nI (tv j)), kMv l yX1_search wsX1_search ({ frames := k + 2, cells := 0, slots := 0, locals := 26 * (k) + 60 }) D (kty cI cC cJ cG) [.ref h0, .int (nI a), .int (nI lf), .int (nI sm)] [(h0, .inr (1, [.ref k1, .ref k2, .ref k3, .ref k4, .ref k5, .ref k6, .int (nI rm), .int bs])), (k1, .inl (cI, 10, .inl fb)), (k2, .inl (cI, 10, .inl ft)), (k3, .inl (cI, 10, .inl fw)), (k4, .inl (cI, 10, .inl fm)), (k5, .inl (cI, 10, .inl ff))] sz 0 0 (fun ((fb2, ft2, bs2) : (Nat → Int32) × (Nat → Int32) × Int32) => sr_ok bs2 fb2 (ct_app (bs, bv) (sm + (ct_B cp w k a lf (rm - sm)).1, ct_mix a tv (ct_B cp w k a lf (rm - sm)).2)) ∧ ∀ j, j < a → ft2 j = ft j) (fun ((fb2, ft2, bs2) : (Nat → Int32) × (Nat → Int32) × Int32) => [(h0, .inr (1, [.ref k1, .ref k2, .ref k3, .ref k4, .ref k5, .ref k6, .int (nI rm), .int bs2])), (k1, .inl (cI, 10, .inl fb2)), (k2, .inl (cI, 10, .inl ft2)), (k3, .inl (cI, 10, .inl fw)), (k4, .inl (cI, 10, .inl fm)), (k5, .inl (cI, 10, .inl ff))])

set_option maxRecDepth 100000 in
set_option maxHeartbeats 4000000 in
theorem c_X1_search_0 (l : Launch) (D : va_G) (cI cC cJ cG : ClassId) : S_search l D cI cC cJ cG 0 := by
  intro h0 k1 k2 k3 k4 k5 sz k6 rm bs fb ft fw fm ff a lf sm cp w wf bv tv ha hlf hrm hsm hfw hfm hff hwb hcp hwf hbd hpos hfb hft
  unfold kMv
  refine k_ofW (cc := cX1_search) (maxL := 7) (ret := none) (lv := [(0, .ref h0), (1, .int (nI a)), (2, .int (nI lf)), (3, .int (nI sm))]) (by decide) rfl (Nat.le_of_ble_eq_true rfl) rfl ?_
  intro p e s m args below meth c ls H locs hE hsz hw hl
  obtain ⟨hx, hb, hr, hml, hown, hts, hlocks⟩ := hE
  subst hsz
  have hown : s.vm.findClass RX1 = some m.cls := hown
  refine lv_iload_n hx hb dX1_search_0 rfl (lv_at hl 1 rfl) ?_
  refine lv_if_lt (tgt := 10) hx hb dX1_search_1 (by decide) (fun c1 => False.elim (absurd c1 (Int32.not_lt.mpr (nI_pos' (by omega))))) (fun c1 => ?_)
  refine lv_iload_n hx hb dX1_search_4 rfl (lv_at hl 1 rfl) ?_
  refine lv_bipush (v := 10) hx hb dX1_search_5 (by decide) ?_
  refine lv_icmp_lt (tgt := 16) hx hb dX1_search_7 (by decide) (fun c7 => False.elim (absurd ((nI_ltI (a := a) (b := 10) (by omega) (by omega)).mp c7) (by omega))) (fun c7 => ?_)
  refine lv_aload_n hx hb dX1_search_10 rfl (lv_at hl 0 rfl) ?_
  refine lv_iload_n hx hb dX1_search_11 rfl (lv_at hl 3 rfl) ?_
  refine k_callv (wr := [(k3, .inl (cI, 10, .inl fw)), (k4, .inl (cI, 10, .inl fm)), (k5, .inl (cI, 10, .inl ff))]) (k_runV (wc := [(h0, .inr (1, [.ref k1, .ref k2, .ref k3, .ref k4, .ref k5, .ref k6, .int (nI rm), .int bs])), (k1, .inl (cI, 10, .inl fb)), (k2, .inl (cI, 10, .inl ft))]) (As := [.int (nI sm)]) (rest := []) ⟨hx, hb, hml, hown, hts⟩ (c_X1_keepIfGreater l D cI cC cJ cG h0 k1 k2 H.size k3 k4 k5 k6 (nI rm) bs fb ft (nI sm)) (cwV 1 hts gX1_search_X1_keepIfGreater rfl rfl rfl (by decide +kernel) ⟨Nat.le_of_ble_eq_true rfl, Nat.le_of_ble_eq_true rfl⟩) hw [0, 1, 2] (by decide) rfl 0 rfl rfl rfl hl.1 rfl (Nat.le_of_ble_eq_true rfl) dX1_search_12 ⟨Nat.zero_le _, Nat.zero_le _⟩) hw [0, 1, 2] [3, 4, 5] rfl rfl (by decide) (by decide) (fun u12 H locs w12 hw => ?_)
  obtain ⟨fb2_12, bs2_12⟩ := u12
  replace hw : kW D (kty cI cC cJ cG) s (va_A [(h0, .inr (1, [.ref k1, .ref k2, .ref k3, .ref k4, .ref k5, .ref k6, .int (nI rm), .int bs])), (k1, .inl (cI, 10, .inl fb)), (k2, .inl (cI, 10, .inl ft)), (k3, .inl (cI, 10, .inl fw)), (k4, .inl (cI, 10, .inl fm)), (k5, .inl (cI, 10, .inl ff))] s.heap.size) [(k3, .inl (cI, 10, .inl fw)), (k4, .inl (cI, 10, .inl fm)), (k5, .inl (cI, 10, .inl ff)), (h0, .inr (1, [.ref k1, .ref k2, .ref k3, .ref k4, .ref k5, .ref k6, .int (nI rm), .int bs2_12])), (k1, .inl (cI, 10, .inl fb2_12)), (k2, .inl (cI, 10, .inl ft))] H locs := hw
  replace w12 : bs2_12 = (if bs < (nI sm) then (nI sm) else bs) ∧ ∀ j, j < 10 → fb2_12 j = if bs < (nI sm) then ft j else fb j := w12
  obtain rfl : a = 10 := by omega
  replace hw := hw.pick (ws' := [(h0, .inr (1, [.ref k1, .ref k2, .ref k3, .ref k4, .ref k5, .ref k6, .int (nI rm), .int bs2_12])), (k1, .inl (cI, 10, .inl fb2_12)), (k2, .inl (cI, 10, .inl ft)), (k3, .inl (cI, 10, .inl fw)), (k4, .inl (cI, 10, .inl fm)), (k5, .inl (cI, 10, .inl ff))]) [3, 4, 5, 0, 1, 2] (by decide) rfl
  exact k_vret (fb2_12, ft, bs2_12) hx hb hr hlocks hw ⟨sr_base w12.1 w12.2 hfb hft, fun _ _ => rfl⟩ dX1_search_15

set_option maxRecDepth 100000 in
set_option maxHeartbeats 4000000 in
theorem c_X1_search_s (l : Launch) (D : va_G) (cI cC cJ cG : ClassId) (k : Nat) (ih : S_search l D cI cC cJ cG k) : S_search l D cI cC cJ cG (k + 1) := by
  intro h0 k1 k2 k3 k4 k5 sz k6 rm bs fb ft fw fm ff a lf sm cp w wf bv tv ha hlf hrm hsm hfw hfm hff hwb hcp hwf hbd hpos hfb hft
  unfold kMv
  refine k_ofW (cc := cX1_search) (maxL := 7) (ret := none) (lv := [(0, .ref h0), (1, .int (nI a)), (2, .int (nI lf)), (3, .int (nI sm))]) (by decide) rfl (Nat.le_of_ble_eq_true rfl) rfl ?_
  intro p e s m args below meth c ls H locs hE hsz hw hl
  obtain ⟨hx, hb, hr, hml, hown, hts, hlocks⟩ := hE
  subst hsz
  have hown : s.vm.findClass RX1 = some m.cls := hown
  have k_f24 : (Cond.fieldLink RX1 24 "PaperMachine$Cutter" "widestFrom" "[I").before args s = true := hts _ (by decide +kernel)
  have k_f39 : (Cond.fieldLink RX1 39 "PaperMachine$Cutter" "room" "I").before args s = true := hts _ (by decide +kernel)
  have k_m30 : (Cond.methodLink RX1 30 Lib.Math.min.name).before args s = true := hts _ (by decide +kernel)
  have k_s_min : (Cond.static Lib.Math.min.name).before args s = true := hts _ (by decide +kernel)
  have k_imath : (Cond.initialized "java/lang/Math").before args s = true := hts _ (by decide +kernel)
  have k_c_min : (Cond.code Lib.Math.min.name Lib.Math.min.code 2 (some .int)).before args s = true := hts _ (by decide +kernel)
  have k_f56 : (Cond.fieldLink RX1 56 "PaperMachine$Cutter" "bestSum" "I").before args s = true := hts _ (by decide +kernel)
  have k_f21 : (Cond.fieldLink RX1 21 "PaperMachine$Cutter" "mostRolls" "[I").before args s = true := hts _ (by decide +kernel)
  have k_f18 : (Cond.fieldLink RX1 18 "PaperMachine$Cutter" "widths" "[I").before args s = true := hts _ (by decide +kernel)
  have k_f15 : (Cond.fieldLink RX1 15 "PaperMachine$Cutter" "trial" "[I").before args s = true := hts _ (by decide +kernel)
  have i_X1 : ∀ w ∈ u_ws RX1 TX1 8, w ∈ wsX1_search := fun _ h => List.mem_cons_of_mem _ (List.mem_append_right _ h)
  refine lv_iload_n hx hb dX1_search_0 rfl (lv_at hl 1 rfl) ?_
  refine lv_if_lt (tgt := 10) hx hb dX1_search_1 (by decide) (fun c1 => False.elim (absurd c1 (Int32.not_lt.mpr (nI_pos' (by omega))))) (fun c1 => ?_)
  refine lv_iload_n hx hb dX1_search_4 rfl (lv_at hl 1 rfl) ?_
  refine lv_bipush (v := 10) hx hb dX1_search_5 (by decide) ?_
  refine lv_icmp_lt (tgt := 16) hx hb dX1_search_7 (by decide) (fun c7 => ?_) (fun c7 => False.elim (c7 ((nI_ltI (a := a) (b := 10) (by omega) (by omega)).mpr (by omega))))
  have ha10 : a < 10 := by omega
  have hwfa := hwf a ha10
  have hlw : lf * wf a ≤ 2400 := Nat.mul_le_mul hlf hwfa
  have hcpa := hcp a ha10
  refine lv_iload_n hx hb dX1_search_16 rfl (lv_at hl 2 rfl) ?_
  refine lv_aload_n hx hb dX1_search_17 rfl (lv_at hl 0 rfl) ?_
  refine k_get hx hb hts i_X1 hown hw 0 4 rfl rfl (by decide) k_f24 rfl dX1_search_18 ?_
  refine lv_iload_n hx hb dX1_search_21 rfl (lv_at hl 1 rfl) ?_
  refine k_iald hx hb hw 5 0 rfl rfl a rfl (by omega) (Nat.le_of_ble_eq_true rfl) dX1_search_22 ?_
  refine k_eqi (y := nI (wf a)) (hff a ha10) ?_
  refine lv_imul hx hb dX1_search_23 ?_
  refine k_eqi (y := nI (lf * wf a)) (pk_mul lf (wf a)) ?_
  refine lv_aload_n hx hb dX1_search_24 rfl (lv_at hl 0 rfl) ?_
  refine k_get hx hb hts i_X1 hown hw 0 6 rfl rfl (by decide) k_f39 rfl dX1_search_25 ?_
  refine lv_iload_n hx hb dX1_search_28 rfl (lv_at hl 3 rfl) ?_
  refine lv_isub hx hb dX1_search_29 ?_
  refine k_eqi (y := nI (rm - sm)) (pk_sub hsm) ?_
  refine va_mmin hx hb (hml.trans hl.1.symm) hown k_m30 k_s_min k_imath k_c_min (by simp <;> omega) (by simp <;> omega) (by simp <;> omega) (by simp <;> omega) dX1_search_30 ?_
  refine k_eqi (y := nI (min (lf * wf a) (rm - sm))) (i_min (by omega) (by omega)) ?_
  refine lv_istore (lv' := [(4, .int (nI (min (lf * wf a) (rm - sm)))), (0, .ref h0), (1, .int (nI a)), (2, .int (nI lf)), (3, .int (nI sm))]) hx hb dX1_search_33 hl (by decide) rfl (fun ls hl => ?_)
  refine lv_iload_n hx hb dX1_search_35 rfl (lv_at hl 4 rfl) ?_
  refine lv_iload hx hb dX1_search_36 (lv_at hl 0 rfl) ?_
  refine lv_iadd hx hb dX1_search_38 ?_
  refine k_eqi (y := nI (sm + min (lf * wf a) (rm - sm))) (nI_add _ _) ?_
  refine lv_aload_n hx hb dX1_search_39 rfl (lv_at hl 1 rfl) ?_
  refine k_get hx hb hts i_X1 hown hw 0 7 rfl rfl (by decide) k_f56 rfl dX1_search_40 ?_
  refine lv_icmp_gt (tgt := 47) hx hb dX1_search_43 (by decide) (fun c43 => ?_) (fun c43 => ?_)
  · refine lv_aload_n hx hb dX1_search_47 rfl (lv_at hl 1 rfl) ?_
    refine k_get hx hb hts i_X1 hown hw 0 3 rfl rfl (by decide) k_f21 rfl dX1_search_48 ?_
    refine lv_iload_n hx hb dX1_search_51 rfl (lv_at hl 2 rfl) ?_
    refine k_iald hx hb hw 4 0 rfl rfl a rfl (by omega) (Nat.le_of_ble_eq_true rfl) dX1_search_52 ?_
    refine k_eqi (y := nI (cp a)) (hfm a ha10) ?_
    refine lv_iload_n hx hb dX1_search_53 rfl (lv_at hl 3 rfl) ?_
    refine va_mmin hx hb (hml.trans hl.1.symm) hown k_m30 k_s_min k_imath k_c_min (by simp <;> omega) (by simp <;> omega) (by simp <;> omega) (by simp <;> omega) dX1_search_54 ?_
    refine k_eqi (y := nI (min (cp a) lf)) (i_min (by omega) (by omega)) ?_
    refine lv_istore (lv' := [(5, .int (nI (min (cp a) lf))), (4, .int (nI (min (lf * wf a) (rm - sm)))), (0, .ref h0), (1, .int (nI a)), (2, .int (nI lf)), (3, .int (nI sm))]) hx hb dX1_search_57 hl (by decide) rfl (fun ls hl => ?_)
    replace hl : lv_has _ 7 [(5, .int (nI (min (cp a) lf))), (0, .ref h0), (1, .int (nI a)), (2, .int (nI lf)), (3, .int (nI sm))] := lv_sub hl [0, 2, 3, 4, 5] rfl
    replace hw : kW D (kty cI cC cJ cG) s (va_A [(h0, .inr (1, [.ref k1, .ref k2, .ref k3, .ref k4, .ref k5, .ref k6, .int (nI rm), .int bs])), (k1, .inl (cI, 10, .inl fb)), (k2, .inl (cI, 10, .inl ft)), (k3, .inl (cI, 10, .inl fw)), (k4, .inl (cI, 10, .inl fm)), (k5, .inl (cI, 10, .inl ff))] s.heap.size) [(h0, .inr (1, [.ref k1, .ref k2, .ref k3, .ref k4, .ref k5, .ref k6, .int (nI rm), .int bs])), (k1, .inl (cI, 10, .inl fb)), (k2, .inl (cI, 10, .inl ft)), (k3, .inl (cI, 10, .inl fw)), (k4, .inl (cI, 10, .inl fm)), (k5, .inl (cI, 10, .inl ff))] H locs := hw
    revert hl; revert hw; revert ls; revert locs; revert H
    refine k_loop (fun ((q, x, fb1, ft1, bs1) : (Nat) × (Int32) × (Nat → Int32) × (Nat → Int32) × (Int32)) => q ≤ min (cp a) lf + 1 ∧ x = nI q - 1 ∧ (∃ bv1 : Nat → Nat, (∀ j, j < 10 → fb1 j = nI (bv1 j)) ∧ ct_Ls (ct_g cp w k a lf (rm - sm) sm tv) (w a) (rm - sm) q (bs1, bv1) = ct_Ls (ct_g cp w k a lf (rm - sm) sm tv) (w a) (rm - sm) (min (cp a) lf + 1) (bs, bv)) ∧ ∀ j, j < a → ft1 j = ft j) (fun ((q, x, fb1, ft1, bs1) : (Nat) × (Int32) × (Nat → Int32) × (Nat → Int32) × (Int32)) => q) (fun ((q, x, fb1, ft1, bs1) : (Nat) × (Int32) × (Nat → Int32) × (Nat → Int32) × (Int32)) => [(h0, .inr (1, [.ref k1, .ref k2, .ref k3, .ref k4, .ref k5, .ref k6, .int (nI rm), .int bs1])), (k1, .inl (cI, 10, .inl fb1)), (k2, .inl (cI, 10, .inl ft1)), (k3, .inl (cI, 10, .inl fw)), (k4, .inl (cI, 10, .inl fm)), (k5, .inl (cI, 10, .inl ff))]) (fun ((q, x, fb1, ft1, bs1) : (Nat) × (Int32) × (Nat → Int32) × (Nat → Int32) × (Int32)) => [(5, .int x), (0, .ref h0), (1, .int (nI a)), (2, .int (nI lf)), (3, .int (nI sm))]) (min (cp a) lf + 1, nI (min (cp a) lf), fb, ft, bs) (show (min (cp a) lf + 1) ≤ min (cp a) lf + 1 ∧ (nI (min (cp a) lf)) = nI (min (cp a) lf + 1) - 1 ∧ (∃ bv1 : Nat → Nat, (∀ j, j < 10 → fb j = nI (bv1 j)) ∧ ct_Ls (ct_g cp w k a lf (rm - sm) sm tv) (w a) (rm - sm) (min (cp a) lf + 1) (bs, bv1) = ct_Ls (ct_g cp w k a lf (rm - sm) sm tv) (w a) (rm - sm) (min (cp a) lf + 1) (bs, bv)) ∧ ∀ j, j < a → ft j = ft j from ⟨by omega, (nI_pred _).symm, ⟨bv, hfb, rfl⟩, fun _ _ => rfl⟩) ?_
    intro ⟨q, x, fb1, ft1, bs1⟩ hI ih59 H locs ls hw hl
    replace hI : q ≤ min (cp a) lf + 1 ∧ x = nI q - 1 ∧ (∃ bv1 : Nat → Nat, (∀ j, j < 10 → fb1 j = nI (bv1 j)) ∧ ct_Ls (ct_g cp w k a lf (rm - sm) sm tv) (w a) (rm - sm) q (bs1, bv1) = ct_Ls (ct_g cp w k a lf (rm - sm) sm tv) (w a) (rm - sm) (min (cp a) lf + 1) (bs, bv)) ∧ ∀ j, j < a → ft1 j = ft j := hI
    replace hw : kW D (kty cI cC cJ cG) s (va_A [(h0, .inr (1, [.ref k1, .ref k2, .ref k3, .ref k4, .ref k5, .ref k6, .int (nI rm), .int bs])), (k1, .inl (cI, 10, .inl fb)), (k2, .inl (cI, 10, .inl ft)), (k3, .inl (cI, 10, .inl fw)), (k4, .inl (cI, 10, .inl fm)), (k5, .inl (cI, 10, .inl ff))] s.heap.size) [(h0, .inr (1, [.ref k1, .ref k2, .ref k3, .ref k4, .ref k5, .ref k6, .int (nI rm), .int bs1])), (k1, .inl (cI, 10, .inl fb1)), (k2, .inl (cI, 10, .inl ft1)), (k3, .inl (cI, 10, .inl fw)), (k4, .inl (cI, 10, .inl fm)), (k5, .inl (cI, 10, .inl ff))] H locs := hw
    replace hl : lv_has ls 7 [(5, .int x), (0, .ref h0), (1, .int (nI a)), (2, .int (nI lf)), (3, .int (nI sm))] := hl
    refine lv_iload hx hb dX1_search_59 (lv_at hl 0 rfl) ?_
    refine lv_if_lt (tgt := 113) hx hb dX1_search_61 (by decide) (fun c61 => ?_) (fun c61 => ?_)
    · have hq0 : q = 0 := by rcases Nat.eq_zero_or_pos q with z | z; exact z; (obtain ⟨t, rfl⟩ : ∃ t, q = t + 1 := ⟨q - 1, by omega⟩); (rw [hI.2.1, nI_pred] at c61); exact absurd c61 (Int32.not_lt.mpr (nI_pos' (by omega)))
      obtain ⟨-, -, ⟨bv1, hok, hT⟩, hft1⟩ := hI
      rw [hq0, ct_Ls, ct_Ls_node cp w k a lf (rm - sm) sm tv (by omega) (bs, bv) (hpos a ha10)] at hT
      exact k_vret (fb1, ft1, bs1) hx hb hr hlocks hw ⟨by rw [← hT]; exact ⟨rfl, hok⟩, hft1⟩ dX1_search_113
    · obtain ⟨t, rfl⟩ : ∃ t, q = t + 1 := ⟨q - 1, by rcases Nat.eq_zero_or_pos q with z | z; (subst z; exact absurd (by rw [hI.2.1]; decide) c61); omega⟩
      obtain rfl : x = nI t := by rw [hI.2.1]; exact nI_pred t
      obtain ⟨hq, -, ⟨bv1, hok, hT⟩, hft1⟩ := hI
      have htw : t * w a ≤ 2400 := Nat.mul_le_mul (show t ≤ 6 by omega) (hwb a (by omega))
      refine lv_iload_n hx hb dX1_search_64 rfl (lv_at hl 4 rfl) ?_
      refine lv_iload hx hb dX1_search_65 (lv_at hl 0 rfl) ?_
      refine lv_aload_n hx hb dX1_search_67 rfl (lv_at hl 1 rfl) ?_
      refine k_get hx hb hts i_X1 hown hw 0 2 rfl rfl (by decide) k_f18 rfl dX1_search_68 ?_
      refine lv_iload_n hx hb dX1_search_71 rfl (lv_at hl 2 rfl) ?_
      refine k_iald hx hb hw 3 0 rfl rfl a rfl (by omega) (Nat.le_of_ble_eq_true rfl) dX1_search_72 ?_
      refine k_eqi (y := nI (w a)) (hfw a ha10) ?_
      refine lv_imul hx hb dX1_search_73 ?_
      refine k_eqi (y := nI (t * w a)) (pk_mul t (w a)) ?_
      refine lv_iadd hx hb dX1_search_74 ?_
      refine k_eqi (y := nI (sm + t * w a)) (nI_add _ _) ?_
      refine lv_istore (lv' := [(6, .int (nI (sm + t * w a))), (5, .int (nI t)), (0, .ref h0), (1, .int (nI a)), (2, .int (nI lf)), (3, .int (nI sm))]) hx hb dX1_search_75 hl (by decide) rfl (fun ls hl => ?_)
      refine lv_iload hx hb dX1_search_77 (lv_at hl 0 rfl) ?_
      refine lv_aload_n hx hb dX1_search_79 rfl (lv_at hl 2 rfl) ?_
      refine k_get hx hb hts i_X1 hown hw 0 6 rfl rfl (by decide) k_f39 rfl dX1_search_80 ?_
      refine lv_icmp_gt (tgt := 107) hx hb dX1_search_83 (by decide) (fun c83 => ?_) (fun c83 => ?_)
      · refine lv_iinc (v := (nI t) + (-1)) (lv' := [(5, .int ((nI t) + (-1))), (6, .int (nI (sm + t * w a))), (0, .ref h0), (1, .int (nI a)), (2, .int (nI lf)), (3, .int (nI sm))]) hx hb dX1_search_107 hl (k := 1) rfl rfl (by decide) rfl (fun ls hl => ?_)
        refine lv_goto (tgt := 59) hx hb dX1_search_110 (by decide) ?_
        exact ih59 (t, (nI t) + (-1), fb1, ft1, bs1) _ _ _ (show t ≤ min (cp a) lf + 1 ∧ ((nI t) + (-1)) = nI t - 1 ∧ (∃ bv1 : Nat → Nat, (∀ j, j < 10 → fb1 j = nI (bv1 j)) ∧ ct_Ls (ct_g cp w k a lf (rm - sm) sm tv) (w a) (rm - sm) t (bs1, bv1) = ct_Ls (ct_g cp w k a lf (rm - sm) sm tv) (w a) (rm - sm) (min (cp a) lf + 1) (bs, bv)) ∧ ∀ j, j < a → ft1 j = ft j from ⟨by omega, i_m1 t, ⟨bv1, hok, by rw [← hT, ct_Ls, if_neg (fun z => absurd ((nI_ltI (by omega) (by omega)).mp c83) (by omega))]⟩, hft1⟩) (show t < (t + 1) from by omega) hw (lv_sub hl [0, 2, 3, 4, 5] rfl)
      · have hle : sm + t * w a ≤ rm := by rcases Nat.lt_or_ge rm (sm + t * w a) with z | z; exact absurd ((nI_ltI (by omega) (by omega)).mpr z) c83; exact z
        refine lv_aload_n hx hb dX1_search_86 rfl (lv_at hl 2 rfl) ?_
        refine k_get hx hb hts i_X1 hown hw 0 1 rfl rfl (by decide) k_f15 rfl dX1_search_87 ?_
        refine lv_iload_n hx hb dX1_search_90 rfl (lv_at hl 3 rfl) ?_
        refine lv_iload hx hb dX1_search_91 (lv_at hl 1 rfl) ?_
        refine k_iast (ws' := [(h0, .inr (1, [.ref k1, .ref k2, .ref k3, .ref k4, .ref k5, .ref k6, .int (nI rm), .int bs1])), (k1, .inl (cI, 10, .inl fb1)), (k2, .inl (cI, 10, .inl (upd ft1 a (nI t)))), (k3, .inl (cI, 10, .inl fw)), (k4, .inl (cI, 10, .inl fm)), (k5, .inl (cI, 10, .inl ff))]) hx hb hw 2 0 rfl rfl a rfl (by omega) (Nat.le_of_ble_eq_true rfl) rfl dX1_search_93 (fun H locs hw => ?_)
        refine lv_aload_n hx hb dX1_search_94 rfl (lv_at hl 2 rfl) ?_
        refine lv_iload_n hx hb dX1_search_95 rfl (lv_at hl 3 rfl) ?_
        refine lv_iconst (v := 1) hx hb dX1_search_96 (by decide) ?_
        refine lv_iadd hx hb dX1_search_97 ?_
        refine k_eqi (nI_1 a) ?_
        refine lv_iload_n hx hb dX1_search_98 rfl (lv_at hl 4 rfl) ?_
        refine lv_iload hx hb dX1_search_99 (lv_at hl 1 rfl) ?_
        refine lv_isub hx hb dX1_search_101 ?_
        refine k_eqi (y := nI (lf - t)) (pk_sub (by omega)) ?_
        refine lv_iload hx hb dX1_search_102 (lv_at hl 0 rfl) ?_
        refine k_callv (wr := []) (k_runS (wc := [(h0, .inr (1, [.ref k1, .ref k2, .ref k3, .ref k4, .ref k5, .ref k6, .int (nI rm), .int bs1])), (k1, .inl (cI, 10, .inl fb1)), (k2, .inl (cI, 10, .inl (upd ft1 a (nI t)))), (k3, .inl (cI, 10, .inl fw)), (k4, .inl (cI, 10, .inl fm)), (k5, .inl (cI, 10, .inl ff))]) (As := [.ref h0, .int (nI (a + 1)), .int (nI (lf - t)), .int (nI (sm + t * w a))]) (rest := []) ⟨hx, hb, hml, hown, hts⟩ (ih h0 k1 k2 k3 k4 k5 H.size k6 rm bs1 fb1 (upd ft1 a (nI t)) fw fm ff (a + 1) (lf - t) (sm + t * w a) cp w wf bv1 (fun j => if j = a then t else tv j) (by omega) (by omega) hrm hle hfw hfm hff hwb hcp hwf hbd hpos hok (sr_tv hft1 hft)) (va_cwS 4 hts gX1_search_X1_search rfl rfl rfl (by decide +kernel) ⟨by dsimp only; omega, by dsimp only; omega⟩) hw [0, 1, 2, 3, 4, 5] (by decide) rfl rfl hl.1 rfl (Nat.le_of_ble_eq_true rfl) dX1_search_104 ⟨Nat.zero_le _, Nat.zero_le _⟩) hw [0, 1, 2, 3, 4, 5] [] rfl rfl (by decide) (by decide) (fun u104 H locs w104 hw => ?_)
        obtain ⟨fb2_104, ft2_104, bs2_104⟩ := u104
        replace hw : kW D (kty cI cC cJ cG) s (va_A [(h0, .inr (1, [.ref k1, .ref k2, .ref k3, .ref k4, .ref k5, .ref k6, .int (nI rm), .int bs])), (k1, .inl (cI, 10, .inl fb)), (k2, .inl (cI, 10, .inl ft)), (k3, .inl (cI, 10, .inl fw)), (k4, .inl (cI, 10, .inl fm)), (k5, .inl (cI, 10, .inl ff))] s.heap.size) [(h0, .inr (1, [.ref k1, .ref k2, .ref k3, .ref k4, .ref k5, .ref k6, .int (nI rm), .int bs2_104])), (k1, .inl (cI, 10, .inl fb2_104)), (k2, .inl (cI, 10, .inl ft2_104)), (k3, .inl (cI, 10, .inl fw)), (k4, .inl (cI, 10, .inl fm)), (k5, .inl (cI, 10, .inl ff))] H locs := hw
        obtain ⟨⟨hb2, hfb2⟩, hft2⟩ := w104
        rw [sr_try (by omega)] at hb2 hfb2
        refine lv_iinc (v := (nI t) + (-1)) (lv' := [(5, .int ((nI t) + (-1))), (6, .int (nI (sm + t * w a))), (0, .ref h0), (1, .int (nI a)), (2, .int (nI lf)), (3, .int (nI sm))]) hx hb dX1_search_107 hl (k := 1) rfl rfl (by decide) rfl (fun ls hl => ?_)
        refine lv_goto (tgt := 59) hx hb dX1_search_110 (by decide) ?_
        exact ih59 (t, (nI t) + (-1), fb2_104, ft2_104, bs2_104) _ _ _ (show t ≤ min (cp a) lf + 1 ∧ ((nI t) + (-1)) = nI t - 1 ∧ (∃ bv1 : Nat → Nat, (∀ j, j < 10 → fb2_104 j = nI (bv1 j)) ∧ ct_Ls (ct_g cp w k a lf (rm - sm) sm tv) (w a) (rm - sm) t (bs2_104, bv1) = ct_Ls (ct_g cp w k a lf (rm - sm) sm tv) (w a) (rm - sm) (min (cp a) lf + 1) (bs, bv)) ∧ ∀ j, j < a → ft2_104 j = ft j from ⟨by omega, i_m1 t, ⟨_, hfb2, by rw [hb2, ← hT, ct_Ls, if_pos (by omega)]⟩, fun j hj => by rw [hft2 j (by omega), pk_un (by omega)]; exact hft1 j hj⟩) (show t < (t + 1) from by omega) hw (lv_sub hl [0, 2, 3, 4, 5] rfl)
  · exact k_vret (fb, ft, bs) hx hb hr hlocks hw ⟨by rw [sr_prune ha hrm hsm hbd hlw c43]; exact ⟨rfl, hfb⟩, fun _ _ => rfl⟩ dX1_search_46

theorem c_X1_search (l : Launch) (D : va_G) (cI cC cJ cG : ClassId) : ∀ k, S_search l D cI cC cJ cG k
  | 0 => c_X1_search_0 l D cI cC cJ cG
  | k + 1 => c_X1_search_s l D cI cC cJ cG k (c_X1_search l D cI cC cJ cG k)
