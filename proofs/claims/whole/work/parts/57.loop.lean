set_option maxRecDepth 100000 in
set_option maxHeartbeats 4000000 in
theorem lc_loop {p : Program} {l : Launch} {e : Env} {s : State} {m : MethodId} {args : Array Value} {below : List Frame} {meth : Method} {c : Code} {Q : State → Prop} {D : va_G} {cI cC cJ cG : ClassId} {b L : Nat} {xs : Nat → Int32} {ad bd : Nat → Nat} {o og : Nat} (hst : l.stackTraces = false) (hL : L ≤ 2048) (hx : p.tables.exec = Jvm.exec) (hb : c.code = cL_law) (hml : c.maxLocals = 9) (hown : s.vm.findClass RL = some m.cls) (hts : ∀ w ∈ wsL_law, w.before args s = true) (hX : va_X b L xs s s.heap) (hbl : b < s.heap.size) (hbA : ¬ va_A [] s.heap.size b) (hZ : kZ (va_A [] s.heap.size) s) (E : ∀ (H : Heap) (locs : List Loc) (ls : Array Slot), (∀ q ∈ locs, s.heap.size ≤ q.base) → W p l e room_1 s m args below meth c H locs 603072 7198826 Q (F0 m 1450 ls [.int 1])) (u0 : ST) (v0 : HX) (x0 : CX) (y0 : MX) (f0 : Nat → Int64) (g0 : Nat → UInt64) (hall0 : All u0 v0) : ∀ (H : Heap) (locs : List Loc) (ls : Array Slot), kW D (kty cI cC cJ cG) s (va_A [] s.heap.size) (wX cI cC ad u0 v0 x0 ++ wM cI cC bd u0 y0 ++ [(o, .inl (cJ, 1, .inr (.inl f0))), (og, .inl (cG, 1, .inr (.inr (.inr (.inl g0)))))]) H locs → lv_has ls 9 [(0, .ref b), (1, .ref (ad 0)), (2, .ref (bd 0)), (3, .ref o), (4, .ref og), (5, .int (nI (4 * 0)))] → W p l e room_1 s m args below meth c H locs (31 + 0) (3034 + 6 * 0) Q (F0 m 28 ls []) := by
  refine k_loopR (W' := fun ((t, u, v, x, y, f, g) : Nat × ST × HX × CX × MX × (Nat → Int64) × (Nat → UInt64)) H locs ls => W p l e room_1 s m args below meth c H locs (31 + t) (3034 + 6 * t) Q (F0 m 28 ls [])) (fun ((t, u, v, x, y, f, g) : Nat × ST × HX × CX × MX × (Nat → Int64) × (Nat → UInt64)) => 4 * t ≤ L ∧ All u v) (fun ((t, u, v, x, y, f, g) : Nat × ST × HX × CX × MX × (Nat → Int64) × (Nat → UInt64)) => L - 4 * t) (fun ((t, u, v, x, y, f, g) : Nat × ST × HX × CX × MX × (Nat → Int64) × (Nat → UInt64)) => (wX cI cC ad u v x ++ wM cI cC bd u y ++ [(o, .inl (cJ, 1, .inr (.inl f))), (og, .inl (cG, 1, .inr (.inr (.inr (.inl g)))))])) (fun ((t, u, v, x, y, f, g) : Nat × ST × HX × CX × MX × (Nat → Int64) × (Nat → UInt64)) => [(0, .ref b), (1, .ref (ad 0)), (2, .ref (bd 0)), (3, .ref o), (4, .ref og), (5, .int (nI (4 * t)))]) (0, u0, v0, x0, y0, f0, g0) ⟨Nat.zero_le _, hall0⟩ ?_
  intro ⟨t, u, v, x, y, f, g⟩ hI ih H locs ls hw hl
  replace hI : 4 * t ≤ L ∧ All u v := hI
  obtain ⟨hI1, hall⟩ := hI
  replace hw : kW D (kty cI cC cJ cG) s (va_A [] s.heap.size) (wX cI cC ad u v x ++ wM cI cC bd u y ++ [(o, .inl (cJ, 1, .inr (.inl f))), (og, .inl (cG, 1, .inr (.inr (.inr (.inl g)))))]) H locs := hw
  replace hl : lv_has ls 9 [(0, .ref b), (1, .ref (ad 0)), (2, .ref (bd 0)), (3, .ref o), (4, .ref og), (5, .int (nI (4 * t)))] := hl
  show W p l e room_1 s m args below meth c H locs (31 + t) (3034 + 6 * t) Q (F0 m 28 ls [])
  refine lv_iload hx hb dL_law_28 (lv_at hl 5 rfl) ?_
  refine lv_aload_n hx hb dL_law_30 rfl (lv_at hl 0 rfl) ?_
  refine va_slen hx hb hX hbl hbA hw.2.2.1 dL_law_31 ?_
  refine lv_iconst (v := 4) hx hb dL_law_32 (by decide) ?_
  refine lv_isub hx hb dL_law_33 ?_
  have e4 : (nI L - nI 4).toInt = (L : Int) - 4 := pk_sub_toInt (by omega) (by omega)
  have et : (nI (4 * t)).toInt = ((4 * t : Nat) : Int) := nI_toInt (by omega)
  have hlocs : ∀ q ∈ locs, s.heap.size ≤ q.base := fun q hq => (hw.2.2.1.2.2 q hq).elim (fun ⟨k, e, h⟩ => absurd h (by simp)) id
  refine lv_icmp_gt (tgt := 1449) hx hb dL_law_34 (by decide) (fun _ => ?_) (fun c34 => ?_)
  · refine lv_iconst (v := 1) hx hb dL_law_1449 (by decide) ?_
    exact W.widen (k := 603072) (n := 7198826) (by omega) (by omega) (E H locs ls hlocs)
  have ht : 4 * t + 4 ≤ L := by
    have q : ¬ (nI L - nI 4).toInt < (nI (4 * t)).toInt := fun z => c34 ((fa_lt _ _).mpr z)
    rw [e4, et] at q
    omega
  refine lv_aload_n hx hb dL_law_37 rfl (lv_at hl 0 rfl) ?_
  refine lv_iload hx hb dL_law_38 (lv_at hl 5 rfl) ?_
  refine va_sld hx hb hX hbl hbA hw.2.2.1 (pk_in (4 * t) L (by omega)) dL_law_40 ?_
  refine k_eqi (y := xs (4 * t)) (by rw [nI_clamp (by omega)]) ?_
  refine lv_bipush (v := 31) hx hb dL_law_41 (by decide) ?_
  refine lv_iand hx hb dL_law_43 ?_
  obtain ⟨j, hj, ej⟩ := pk_andE (xs (4 * t)) (m := 31) 5 (by decide)
  refine k_eqi ej ?_
  have K : ∀ (u2 : ST) (v2 : HX) (x2 : CX) (y2 : MX) (f2 : Nat → Int64) (fg2 : Nat → UInt64) (H : Heap) (locs : List Loc) (ls : Array Slot), All u2 v2 → kW D (kty cI cC cJ cG) s (va_A [] s.heap.size) (wX cI cC ad u2 v2 x2 ++ wM cI cC bd u2 y2 ++ [(o, .inl (cJ, 1, .inr (.inl f2))), (og, .inl (cG, 1, .inr (.inr (.inr (.inl fg2)))))]) H locs → lv_has ls 9 [(0, .ref b), (1, .ref (ad 0)), (2, .ref (bd 0)), (3, .ref o), (4, .ref og), (5, .int (nI (4 * t)))] → W p l e room_1 s m args below meth c H locs (31 + t + 1) (3034 + 6 * t + 6) Q (F0 m 1443 ls []) := by
    intro u2 v2 x2 y2 f2 fg2 H locs ls hall2 hw hl
    refine lv_iinc (v := nI (4 * (t + 1))) (lv' := [(5, .int (nI (4 * (t + 1)))), (0, .ref b), (1, .ref (ad 0)), (2, .ref (bd 0)), (3, .ref o), (4, .ref og)]) hx hb dL_law_1443 hl (k := 5) rfl (nI_add (4 * t) 4) (by decide) rfl (fun ls hl => ?_)
    refine lv_goto (tgt := 28) hx hb dL_law_1446 (by decide) ?_
    exact W.widen (k := 31 + (t + 1)) (n := 3034 + 6 * (t + 1)) (by omega) (by omega) (ih (t + 1, u2, v2, x2, y2, f2, fg2) H locs ls ⟨(show 4 * (t + 1) ≤ L by omega), hall2⟩ (show L - 4 * (t + 1) < L - 4 * t by omega) hw (lv_sub hl [1, 2, 3, 4, 5, 0] rfl))
  rcases Nat.lt_or_ge j 28 with hj2 | hj2
  · match j, hj2 with
    | 0, _ => exact lv_tableIn (off := 128) (tgt := 172) hx hb dL_law_44 (by decide +kernel) (by decide +kernel) (by decide +kernel) (by decide +kernel) (lc_addGrade hst hL hx hb hml hown hts hX hbl hbA hZ t ht u v x y f g hall K H locs ls hw hl)
    | 1, _ => exact lv_tableIn (off := 184) (tgt := 228) hx hb dL_law_44 (by decide +kernel) (by decide +kernel) (by decide +kernel) (by decide +kernel) (lc_setWidth hst hL hx hb hml hown hts hX hbl hbA hZ t ht u v x y f g hall K H locs ls hw hl)
    | 2, _ => exact lv_tableIn (off := 240) (tgt := 284) hx hb dL_law_44 (by decide +kernel) (by decide +kernel) (by decide +kernel) (by decide +kernel) (lc_change hst hL hx hb hml hown hts hX hbl hbA hZ t ht u v x y f g hall K H locs ls hw hl)
    | 3, _ => exact lv_tableIn (off := 296) (tgt := 340) hx hb dL_law_44 (by decide +kernel) (by decide +kernel) (by decide +kernel) (by decide +kernel) (lc_grade hst hL hx hb hml hown hts hX hbl hbA hZ t ht u v x y f g hall K H locs ls hw hl)
    | 4, _ => exact lv_tableIn (off := 340) (tgt := 384) hx hb dL_law_44 (by decide +kernel) (by decide +kernel) (by decide +kernel) (by decide +kernel) (lc_changing hst hL hx hb hml hown hts hX hbl hbA hZ t ht u v x y f g hall K H locs ls hw hl)
    | 5, _ => exact lv_tableIn (off := 353) (tgt := 397) hx hb dL_law_44 (by decide +kernel) (by decide +kernel) (by decide +kernel) (by decide +kernel) (lc_next hst hL hx hb hml hown hts hX hbl hbA hZ t ht u v x y f g hall K H locs ls hw hl)
    | 6, _ => exact lv_tableIn (off := 397) (tgt := 441) hx hb dL_law_44 (by decide +kernel) (by decide +kernel) (by decide +kernel) (by decide +kernel) (lc_mass hst hL hx hb hml hown hts hX hbl hbA hZ t ht u v x y f g hall K H locs ls hw hl)
    | 7, _ => exact lv_tableIn (off := 453) (tgt := 497) hx hb dL_law_44 (by decide +kernel) (by decide +kernel) (by decide +kernel) (by decide +kernel) (lc_order hst hL hx hb hml hown hts hX hbl hbA hZ t ht u v x y f g hall K H locs ls hw hl)
    | 8, _ => exact lv_tableIn (off := 533) (tgt := 577) hx hb dL_law_44 (by decide +kernel) (by decide +kernel) (by decide +kernel) (by decide +kernel) (lc_cancel hst hL hx hb hml hown hts hX hbl hbA hZ t ht u v x y f g hall K H locs ls hw hl)
    | 9, _ => exact lv_tableIn (off := 589) (tgt := 633) hx hb dL_law_44 (by decide +kernel) (by decide +kernel) (by decide +kernel) (by decide +kernel) (lc_cut hst hL hx hb hml hown hts hX hbl hbA hZ t ht u v x y f g hall K H locs ls hw hl)
    | 10, _ => exact lv_tableIn (off := 645) (tgt := 689) hx hb dL_law_44 (by decide +kernel) (by decide +kernel) (by decide +kernel) (by decide +kernel) (lc_lacks hst hL hx hb hml hown hts hX hbl hbA hZ t ht u v x y f g hall K H locs ls hw hl)
    | 11, _ => exact lv_tableIn (off := 701) (tgt := 745) hx hb dL_law_44 (by decide +kernel) (by decide +kernel) (by decide +kernel) (by decide +kernel) (lc_trim hst hL hx hb hml hown hts hX hbl hbA hZ t ht u v x y f g hall K H locs ls hw hl)
    | 12, _ => exact lv_tableIn (off := 757) (tgt := 801) hx hb dL_law_44 (by decide +kernel) (by decide +kernel) (by decide +kernel) (by decide +kernel) (lc_trimByTable hst hL hx hb hml hown hts hX hbl hbA hZ t ht u v x y f g hall K H locs ls hw hl)
    | 13, _ => exact lv_tableIn (off := 813) (tgt := 857) hx hb dL_law_44 (by decide +kernel) (by decide +kernel) (by decide +kernel) (by decide +kernel) (lc_inCut hst hL hx hb hml hown hts hX hbl hbA hZ t ht u v x y f g hall K H locs ls hw hl)
    | 14, _ => exact lv_tableIn (off := 869) (tgt := 913) hx hb dL_law_44 (by decide +kernel) (by decide +kernel) (by decide +kernel) (by decide +kernel) (lc_leastHours hst hL hx hb hml hown hts hX hbl hbA hZ t ht u v x y f g hall K H locs ls hw hl)
    | 15, _ => exact lv_tableIn (off := 925) (tgt := 969) hx hb dL_law_44 (by decide +kernel) (by decide +kernel) (by decide +kernel) (by decide +kernel) (lc_setShare hst hL hx hb hml hown hts hX hbl hbA hZ t ht u v x y f g hall K H locs ls hw hl)
    | 16, _ => exact lv_tableIn (off := 981) (tgt := 1025) hx hb dL_law_44 (by decide +kernel) (by decide +kernel) (by decide +kernel) (by decide +kernel) (lc_setContract hst hL hx hb hml hown hts hX hbl hbA hZ t ht u v x y f g hall K H locs ls hw hl)
    | 17, _ => exact lv_tableIn (off := 1061) (tgt := 1105) hx hb dL_law_44 (by decide +kernel) (by decide +kernel) (by decide +kernel) (by decide +kernel) (lc_pass hst hL hx hb hml hown hts hX hbl hbA hZ t ht u v x y f g hall K H locs ls hw hl)
    | 18, _ => exact lv_tableIn (off := 1117) (tgt := 1161) hx hb dL_law_44 (by decide +kernel) (by decide +kernel) (by decide +kernel) (by decide +kernel) (lc_hours hst hL hx hb hml hown hts hX hbl hbA hZ t ht u v x y f g hall K H locs ls hw hl)
    | 19, _ => exact lv_tableIn (off := 1130) (tgt := 1174) hx hb dL_law_44 (by decide +kernel) (by decide +kernel) (by decide +kernel) (by decide +kernel) (lc_broke hst hL hx hb hml hown hts hX hbl hbA hZ t ht u v x y f g hall K H locs ls hw hl)
    | 20, _ => exact lv_tableIn (off := 1143) (tgt := 1187) hx hb dL_law_44 (by decide +kernel) (by decide +kernel) (by decide +kernel) (by decide +kernel) (lc_brokeByHours hst hL hx hb hml hown hts hX hbl hbA hZ t ht u v x y f g hall K H locs ls hw hl)
    | 21, _ => exact lv_tableIn (off := 1156) (tgt := 1200) hx hb dL_law_44 (by decide +kernel) (by decide +kernel) (by decide +kernel) (by decide +kernel) (lc_fresh hst hL hx hb hml hown hts hX hbl hbA hZ t ht u v x y f g hall K H locs ls hw hl)
    | 22, _ => exact lv_tableIn (off := 1170) (tgt := 1214) hx hb dL_law_44 (by decide +kernel) (by decide +kernel) (by decide +kernel) (by decide +kernel) (lc_paper hst hL hx hb hml hown hts hX hbl hbA hZ t ht u v x y f g hall K H locs ls hw hl)
    | 23, _ => exact lv_tableIn (off := 1184) (tgt := 1228) hx hb dL_law_44 (by decide +kernel) (by decide +kernel) (by decide +kernel) (by decide +kernel) (lc_lost hst hL hx hb hml hown hts hX hbl hbA hZ t ht u v x y f g hall K H locs ls hw hl)
    | 24, _ => exact lv_tableIn (off := 1198) (tgt := 1242) hx hb dL_law_44 (by decide +kernel) (by decide +kernel) (by decide +kernel) (by decide +kernel) (lc_made hst hL hx hb hml hown hts hX hbl hbA hZ t ht u v x y f g hall K H locs ls hw hl)
    | 25, _ => exact lv_tableIn (off := 1254) (tgt := 1298) hx hb dL_law_44 (by decide +kernel) (by decide +kernel) (by decide +kernel) (by decide +kernel) (lc_steamCost hst hL hx hb hml hown hts hX hbl hbA hZ t ht u v x y f g hall K H locs ls hw hl)
    | 26, _ => exact lv_tableIn (off := 1268) (tgt := 1312) hx hb dL_law_44 (by decide +kernel) (by decide +kernel) (by decide +kernel) (by decide +kernel) (lc_paperShare hst hL hx hb hml hown hts hX hbl hbA hZ t ht u v x y f g hall K H locs ls hw hl)
    | 27, _ => exact lv_tableIn (off := 1334) (tgt := 1378) hx hb dL_law_44 (by decide +kernel) (by decide +kernel) (by decide +kernel) (by decide +kernel) (lc_meanTrim hst hL hx hb hml hown hts hX hbl hbA hZ t ht u v x y f g hall K H locs ls hw hl)
    | j + 28, h => exact absurd h (by omega)
  · have ej2 : (nI j).toInt = (j : Int) := nI_toInt (by omega)
    exact lv_tableOut (tgt := 1443) hx hb dL_law_44 (Or.inr (by rw [ej2]; omega)) (by decide) (W.widen (k := 31 + t + 1) (n := 3034 + 6 * t + 6) (by omega) (by omega) (K u v x y f g H locs ls hall hw hl))
