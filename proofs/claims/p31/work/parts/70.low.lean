set_option maxRecDepth 100000 in
set_option maxHeartbeats 4000000 in
/-- L_low -/
theorem c_L_low (l : Launch) (D : va_G) (cI cC cJ cG : ClassId) (sz : Nat) (p0 : Int32) (N : Nat) (hN : 0 < N) (hN2 : N ≤ 1000000) : kMi l yL_low wsL_low ({ frames := 0, cells := 0, slots := 0, locals := 0 }) D (kty cI cC cJ cG) [.int p0, .int (nI N)] [] sz 0 0 (fun (r : Int32) (_ : Unit) => r = nI (lo_ p0 N)) (fun (_ : Unit) => []) := by
  unfold kMi
  refine k_ofW (cc := cL_low) (maxL := 2) (ret := (some .int)) (lv := [(0, .int p0), (1, .int (nI N))]) (by decide) rfl (Nat.le_of_ble_eq_true rfl) rfl ?_
  intro p e s m args below meth c ls H locs hE hsz hw hl
  obtain ⟨hx, hb, hr, hml, hown, hts, hlocks⟩ := hE
  subst hsz
  have hown : s.vm.findClass RL = some m.cls := hown
  have k_c8 : (Cond.constant RL 8 2147483647).before args s = true := hts _ (by decide +kernel)
  refine lv_iload_n hx hb dL_low_0 rfl (lv_at hl 0 rfl) ?_
  refine lv_ldc hx hb hown k_c8 dL_low_1 ?_
  refine lv_iand hx hb dL_low_3 ?_
  refine lv_iload_n hx hb dL_low_4 rfl (lv_at hl 1 rfl) ?_
  refine lv_irem hx hb dL_low_5 (nI_ne0 hN (by omega)) ?_
  exact k_iret () hx hb hr hlocks hw (la_low p0 hN hN2) dL_low_6

set_option maxRecDepth 100000 in
set_option maxHeartbeats 4000000 in
/-- L_next -/
theorem c_L_next (l : Launch) (D : va_G) (cI cC cJ cG : ClassId) (sz : Nat) (ad : Nat → Nat) (u : ST) (v : HX) (x : CX) (hst : l.stackTraces = false) (hinv : Inv u) : kYi l yL_next wsL_next ({ frames := 7, cells := 1, slots := 6, locals := 111 }) D (kty cI cC cJ cG) [.ref (ad 0)] (wX cI cC ad u v x) sz 1 6 (fun (r : Int32) (_ : Unit) => r = v_next u) (fun (_ : Unit) => wX cI cC ad u v x) := by
  unfold kYi
  refine k_ofY (cc := cL_next) (maxL := 2) (ret := (some .int)) (lv := [(0, .ref (ad 0))]) (by decide) rfl (Nat.le_of_ble_eq_true rfl) rfl ?_
  intro p e s m args below meth c ls H locs hE hex hsz hZ hw hl
  obtain ⟨hx, hb, hr, hml, hown, hts, hlocks⟩ := hE
  subst hsz
  replace hw : kW D (kty cI cC cJ cG) s (va_A (wX cI cC ad u v x) s.heap.size) [(ad 0, .inr (4, [.ref (ad 1), .int (nI (s_gc u)), .int (nI (s_mw u)), .int (s_mg u), .int (s_ch u), .int (s_up u), .ref (ad 2), .ref (ad 7), .ref (ad 14), .ref (ad 15), .int (s_sh u), .int (s_bk u), .long (s_st u)])), (ad 1, .inl (cI, 6, .inl (s_we u))), (ad 2, .inr (3, [.ref (ad 3), .ref (ad 4), .ref (ad 5), .ref (ad 6), .int (nI (s_oc u))])), (ad 3, .inl (cI, 10, .inl (s_og u))), (ad 4, .inl (cI, 10, .inl (s_ow u))), (ad 5, .inl (cI, 10, .inl (s_ok u))), (ad 6, .inl (cI, 10, .inl (s_ol u))), (ad 7, .inr (1, [.ref (ad 8), .ref (ad 9), .ref (ad 10), .ref (ad 11), .ref (ad 12), .ref (ad 13), .int x.2.2.2.2.2.2.1, .int x.2.2.2.2.2.2.2])), (ad 8, .inl (cI, 10, .inl x.1)), (ad 9, .inl (cI, 10, .inl x.2.1)), (ad 10, .inl (cI, 10, .inl x.2.2.1)), (ad 11, .inl (cI, 10, .inl x.2.2.2.1)), (ad 12, .inl (cI, 10, .inl x.2.2.2.2.1)), (ad 13, .inl (cI, 801, .inl x.2.2.2.2.2.1)), (ad 14, .inr (0, [.int (s_li u), .int (s_fp u), .int (s_sp u)])), (ad 15, .inr (2, [.ref (ad 16), .ref (ad 17), .ref (ad 18), .ref (ad 19), .int (nI (s_hc u)), .long (s_fr u), .long (s_pa u), .long (s_lo u), .long (s_ma u), .long (Int32.toInt64 (s_tr u)), .int (s_ph u)])), (ad 16, .inl (cC, 400, .inl (s_kd u))), (ad 17, .inl (cI, 400, .inl v.1)), (ad 18, .inl (cI, 400, .inl v.2.1)), (ad 19, .inl (cI, 400, .inl v.2.2))] H locs := hw
  have hown : s.vm.findClass RL = some m.cls := hown
  have k_cl21 : (Cond.classLink RL 21 "java/util/NoSuchElementException").before args s = true := hts _ (by decide +kernel)
  refine lv_aload_n hx hb dL_next_0 rfl (lv_at hl 0 rfl) ?_
  refine k_xcalli (wr := []) (k_xrunV (wc := wX cI cC ad u v x) (As := []) (rest := []) ⟨hx, hb, hml, hown, hts⟩ (c_X4_next l D cI cC cJ cG H.size ad u v x hst hinv) (cwV 0 hts gL_next_X4_next rfl rfl rfl (by decide +kernel) ⟨Nat.le_of_ble_eq_true rfl, Nat.le_of_ble_eq_true rfl⟩) hZ hw [0, 1, 2, 3, 4, 5, 6, 7, 8, 9, 10, 11, 12, 13, 14, 15, 16, 17, 18, 19] (by decide) rfl 0 rfl rfl rfl hl.1 rfl (Nat.le_of_ble_eq_true rfl) dL_next_1 ⟨Nat.le_of_ble_eq_true rfl, Nat.le_of_ble_eq_true rfl⟩) hw [0, 1, 2, 3, 4, 5, 6, 7, 8, 9, 10, 11, 12, 13, 14, 15, 16, 17, 18, 19] [] rfl rfl (by decide) (by decide) (fun E ce q9 H locs hxp hw hce hcv hcl => ?_) (fun r1 u1 H locs w1 hw => ?_)
  · replace hw : kW D (kty cI cC cJ cG) s (va_A (wX cI cC ad u v x) s.heap.size) [(ad 0, .inr (4, [.ref (ad 1), .int (nI (s_gc u)), .int (nI (s_mw u)), .int (s_mg u), .int (s_ch u), .int (s_up u), .ref (ad 2), .ref (ad 7), .ref (ad 14), .ref (ad 15), .int (s_sh u), .int (s_bk u), .long (s_st u)])), (ad 1, .inl (cI, 6, .inl (s_we u))), (ad 2, .inr (3, [.ref (ad 3), .ref (ad 4), .ref (ad 5), .ref (ad 6), .int (nI (s_oc u))])), (ad 3, .inl (cI, 10, .inl (s_og u))), (ad 4, .inl (cI, 10, .inl (s_ow u))), (ad 5, .inl (cI, 10, .inl (s_ok u))), (ad 6, .inl (cI, 10, .inl (s_ol u))), (ad 7, .inr (1, [.ref (ad 8), .ref (ad 9), .ref (ad 10), .ref (ad 11), .ref (ad 12), .ref (ad 13), .int x.2.2.2.2.2.2.1, .int x.2.2.2.2.2.2.2])), (ad 8, .inl (cI, 10, .inl x.1)), (ad 9, .inl (cI, 10, .inl x.2.1)), (ad 10, .inl (cI, 10, .inl x.2.2.1)), (ad 11, .inl (cI, 10, .inl x.2.2.2.1)), (ad 12, .inl (cI, 10, .inl x.2.2.2.2.1)), (ad 13, .inl (cI, 801, .inl x.2.2.2.2.2.1)), (ad 14, .inr (0, [.int (s_li u), .int (s_fp u), .int (s_sp u)])), (ad 15, .inr (2, [.ref (ad 16), .ref (ad 17), .ref (ad 18), .ref (ad 19), .int (nI (s_hc u)), .long (s_fr u), .long (s_pa u), .long (s_lo u), .long (s_ma u), .long (Int32.toInt64 (s_tr u)), .int (s_ph u)])), (ad 16, .inl (cC, 400, .inl (s_kd u))), (ad 17, .inl (cI, 400, .inl v.1)), (ad 18, .inl (cI, 400, .inl v.2.1)), (ad 19, .inl (cI, 400, .inl v.2.2))] H locs := hw
    obtain ⟨hk, rfl⟩ := hxp
    refine k_catch (hp := []) (x := (0, 4, 5, 21)) (hs := []) hex rfl hown hZ (by decide) (fun z hz => absurd hz List.not_mem_nil) rfl (by decide) (by decide) k_cl21 hce hcv hcl ?_
    refine lv_astore_n (lv' := [(1, .ref q9), (0, .ref (ad 0))]) hx hb dL_next_5 rfl hl (by decide) rfl (fun ls hl => ?_)
    refine lv_iconst (v := (-1)) hx hb dL_next_6 (by decide) ?_
    refine W.widen (k := 1) (n := 6) (by omega) (by omega) ?_
    exact k_iret () hx hb hr hlocks hw (Classical.byContradiction (fun z => absurd ((if_neg (fun q => z q.symm)).symm.trans hk) (by decide))) dL_next_7
  · replace hw : kW D (kty cI cC cJ cG) s (va_A (wX cI cC ad u v x) s.heap.size) [(ad 0, .inr (4, [.ref (ad 1), .int (nI (s_gc u)), .int (nI (s_mw u)), .int (s_mg u), .int (s_ch u), .int (s_up u), .ref (ad 2), .ref (ad 7), .ref (ad 14), .ref (ad 15), .int (s_sh u), .int (s_bk u), .long (s_st u)])), (ad 1, .inl (cI, 6, .inl (s_we u))), (ad 2, .inr (3, [.ref (ad 3), .ref (ad 4), .ref (ad 5), .ref (ad 6), .int (nI (s_oc u))])), (ad 3, .inl (cI, 10, .inl (s_og u))), (ad 4, .inl (cI, 10, .inl (s_ow u))), (ad 5, .inl (cI, 10, .inl (s_ok u))), (ad 6, .inl (cI, 10, .inl (s_ol u))), (ad 7, .inr (1, [.ref (ad 8), .ref (ad 9), .ref (ad 10), .ref (ad 11), .ref (ad 12), .ref (ad 13), .int x.2.2.2.2.2.2.1, .int x.2.2.2.2.2.2.2])), (ad 8, .inl (cI, 10, .inl x.1)), (ad 9, .inl (cI, 10, .inl x.2.1)), (ad 10, .inl (cI, 10, .inl x.2.2.1)), (ad 11, .inl (cI, 10, .inl x.2.2.2.1)), (ad 12, .inl (cI, 10, .inl x.2.2.2.2.1)), (ad 13, .inl (cI, 801, .inl x.2.2.2.2.2.1)), (ad 14, .inr (0, [.int (s_li u), .int (s_fp u), .int (s_sp u)])), (ad 15, .inr (2, [.ref (ad 16), .ref (ad 17), .ref (ad 18), .ref (ad 19), .int (nI (s_hc u)), .long (s_fr u), .long (s_pa u), .long (s_lo u), .long (s_ma u), .long (Int32.toInt64 (s_tr u)), .int (s_ph u)])), (ad 16, .inl (cC, 400, .inl (s_kd u))), (ad 17, .inl (cI, 400, .inl v.1)), (ad 18, .inl (cI, 400, .inl v.2.1)), (ad 19, .inl (cI, 400, .inl v.2.2))] H locs := hw
    refine W.widen (k := 1) (n := 6) (by omega) (by omega) ?_
    exact k_iret () hx hb hr hlocks hw w1.2 dL_next_4
