def S_tries (l : Launch) (D : va_G) (cI cC cJ cG : ClassId) (k : Nat) : Prop := ∀ (h0 z2 z3 z4 z7 z8 : Nat) (sz : Nat) (z1 z5 z6 : Nat) (th : Int32) (G mw : Nat) (mg up ch : Int32) (N : Nat) (sh li fp sp : Int32) (hc : Nat) (bk : Int32) (fr pa lo st ma : Int64) (ph tr bs : Int32) (og ow ol ft fb : Nat → Int32) (p0 : Int32) (a rl sm : Nat) (lk w bv tv : Nat → Nat) (ha : a + k = N) (hN : N ≤ 10) (hrl : rl ≤ 6) (hmw : mw ≤ 800) (hsm : sm ≤ mw) (hfw : ∀ j, j < 10 → ow j = nI (w j)) (hfm : ∀ j, j < 10 → ol j = nI (lk j)) (hwb : ∀ j, j < 10 → w j ≤ 400) (hlk : ∀ j, j < 10 → lk j ≤ 1000) (hpos : ∀ j, j < N → 0 < w j) (hfb : ∀ j, j < N → fb j = nI (bv j)) (hft : ∀ j, j < a → ft j = nI (tv j)), kMv l yX5_tries wsX5_tries ({ frames := k + 2, cells := 0, slots := 0, locals := 26 * (k) + 60 }) D (kty cI cC cJ cG) [.ref h0, .int p0, .int (nI a), .int (nI rl), .int (nI sm)] [(h0, .inr (7, [.int th, .int (nI G), .ref z1, .int (nI mw), .int mg, .int up, .int ch, .int (nI N), .ref z2, .ref z3, .ref z4, .ref z5, .int sh, .int li, .int fp, .int sp, .int (nI hc), .ref z6, .int bk, .long fr, .long pa, .long lo, .long st, .long ma, .int ph, .int tr, .int bs, .ref z7, .ref z8])), (z2, .inl (cI, 10, .inl og)), (z3, .inl (cI, 10, .inl ow)), (z4, .inl (cI, 10, .inl ol)), (z7, .inl (cI, 10, .inl ft)), (z8, .inl (cI, 10, .inl fb))] sz 0 0 (fun ((fb2, ft2, bs2) : (Nat → Int32) × (Nat → Int32) × Int32) => sr_okN N bs2 fb2 (ct_app (bs, bv) (sm + (ct_B (m_cap og lk p0) w k a (6 - rl) (mw - sm)).1, ct_mix a tv (ct_B (m_cap og lk p0) w k a (6 - rl) (mw - sm)).2)) ∧ ∀ j, j < a → ft2 j = ft j) (fun ((fb2, ft2, bs2) : (Nat → Int32) × (Nat → Int32) × Int32) => [(h0, .inr (7, [.int th, .int (nI G), .ref z1, .int (nI mw), .int mg, .int up, .int ch, .int (nI N), .ref z2, .ref z3, .ref z4, .ref z5, .int sh, .int li, .int fp, .int sp, .int (nI hc), .ref z6, .int bk, .long fr, .long pa, .long lo, .long st, .long ma, .int ph, .int tr, .int bs2, .ref z7, .ref z8])), (z2, .inl (cI, 10, .inl og)), (z3, .inl (cI, 10, .inl ow)), (z4, .inl (cI, 10, .inl ol)), (z7, .inl (cI, 10, .inl ft2)), (z8, .inl (cI, 10, .inl fb2))])

set_option maxRecDepth 100000 in
set_option maxHeartbeats 8000000 in
theorem c_X5_tries_0 (l : Launch) (D : va_G) (cI cC cJ cG : ClassId) : S_tries l D cI cC cJ cG 0 := by
  intro h0 z2 z3 z4 z7 z8 sz z1 z5 z6 th G mw mg up ch N sh li fp sp hc bk fr pa lo st ma ph tr bs og ow ol ft fb p0 a rl sm lk w bv tv ha hN hrl hmw hsm hfw hfm hwb hlk hpos hfb hft
  unfold kMv
  refine k_ofW (cc := cX5_tries) (maxL := 7) (ret := none) (lv := [(0, .ref h0), (1, .int p0), (2, .int (nI a)), (3, .int (nI rl)), (4, .int (nI sm))]) (by decide) rfl (Nat.le_of_ble_eq_true rfl) rfl ?_
  intro p e s m args below meth c ls H locs hE hsz hw hl
  obtain ⟨hx, hb, hr, hml, hown, hts, hlocks⟩ := hE
  subst hsz
  have hown : s.vm.findClass RX5 = some m.cls := hown
  have k_f68 : (Cond.fieldLink RX5 68 "PaperMachineModel" "orders" "I").before args s = true := hts _ (by decide +kernel)
  have k_f98 : (Cond.fieldLink RX5 98 "PaperMachineModel" "best" "I").before args s = true := hts _ (by decide +kernel)
  have k_f55 : (Cond.fieldLink RX5 55 "PaperMachineModel" "inCut" "[I").before args s = true := hts _ (by decide +kernel)
  have k_f52 : (Cond.fieldLink RX5 52 "PaperMachineModel" "trial" "[I").before args s = true := hts _ (by decide +kernel)
  have i_X5 : ∀ w ∈ u_ws RX5 TX5 29, w ∈ wsX5_tries := fun _ h => List.mem_cons_of_mem _ (List.mem_append_left _ (List.mem_append_left _ (List.mem_append_right _ h)))
  refine lv_iload_n hx hb dX5_tries_0 rfl (lv_at hl 2 rfl) ?_
  refine lv_aload_n hx hb dX5_tries_1 rfl (lv_at hl 0 rfl) ?_
  refine k_get hx hb hts i_X5 hown hw 0 7 rfl rfl (by decide) k_f68 rfl dX5_tries_2 ?_
  refine lv_icmp_ne (tgt := 56) hx hb dX5_tries_5 (by decide) (fun c5 => False.elim (c5 (congrArg nI (by omega)))) (fun c5 => ?_)
  refine lv_iload hx hb dX5_tries_8 (lv_at hl 4 rfl) ?_
  refine lv_aload_n hx hb dX5_tries_10 rfl (lv_at hl 0 rfl) ?_
  refine k_get hx hb hts i_X5 hown hw 0 26 rfl rfl (by decide) k_f98 rfl dX5_tries_11 ?_
  refine lv_icmp_le (tgt := 55) hx hb dX5_tries_14 (by decide) (fun c14 => ?_) (fun c14 => ?_)
  · obtain rfl : a = N := by omega
    exact k_vret (fb, ft, bs) hx hb hr hlocks hw ⟨tr_base0 (Int32.not_lt.mpr c14) hfb, fun _ _ => rfl⟩ dX5_tries_55
  · refine lv_aload_n hx hb dX5_tries_17 rfl (lv_at hl 0 rfl) ?_
    refine lv_iload hx hb dX5_tries_18 (lv_at hl 4 rfl) ?_
    refine k_put hx hb hts i_X5 tyX5_ok nmX5 hown hw 0 26 (ws' := [(h0, .inr (7, [.int th, .int (nI G), .ref z1, .int (nI mw), .int mg, .int up, .int ch, .int (nI N), .ref z2, .ref z3, .ref z4, .ref z5, .int sh, .int li, .int fp, .int sp, .int (nI hc), .ref z6, .int bk, .long fr, .long pa, .long lo, .long st, .long ma, .int ph, .int tr, .int (nI sm), .ref z7, .ref z8])), (z2, .inl (cI, 10, .inl og)), (z3, .inl (cI, 10, .inl ow)), (z4, .inl (cI, 10, .inl ol)), (z7, .inl (cI, 10, .inl ft)), (z8, .inl (cI, 10, .inl fb))]) rfl rfl (by decide) k_f98 rfl rfl rfl (Nat.le_of_ble_eq_true rfl) rfl dX5_tries_20 (fun H locs hw => ?_)
    refine lv_iconst (v := 0) hx hb dX5_tries_23 (by decide) ?_
    refine lv_istore (lv' := [(5, .int 0), (0, .ref h0), (1, .int p0), (2, .int (nI a)), (3, .int (nI rl)), (4, .int (nI sm))]) hx hb dX5_tries_24 hl (by decide) rfl (fun ls hl => ?_)
    replace hl : lv_has _ 7 [(5, .int (nI 0)), (0, .ref h0), (1, .int p0), (2, .int (nI a)), (3, .int (nI rl)), (4, .int (nI sm))] := hl
    replace hw : kW D (kty cI cC cJ cG) s (va_A [(h0, .inr (7, [.int th, .int (nI G), .ref z1, .int (nI mw), .int mg, .int up, .int ch, .int (nI N), .ref z2, .ref z3, .ref z4, .ref z5, .int sh, .int li, .int fp, .int sp, .int (nI hc), .ref z6, .int bk, .long fr, .long pa, .long lo, .long st, .long ma, .int ph, .int tr, .int bs, .ref z7, .ref z8])), (z2, .inl (cI, 10, .inl og)), (z3, .inl (cI, 10, .inl ow)), (z4, .inl (cI, 10, .inl ol)), (z7, .inl (cI, 10, .inl ft)), (z8, .inl (cI, 10, .inl fb))] s.heap.size) [(h0, .inr (7, [.int th, .int (nI G), .ref z1, .int (nI mw), .int mg, .int up, .int ch, .int (nI N), .ref z2, .ref z3, .ref z4, .ref z5, .int sh, .int li, .int fp, .int sp, .int (nI hc), .ref z6, .int bk, .long fr, .long pa, .long lo, .long st, .long ma, .int ph, .int tr, .int (nI sm), .ref z7, .ref z8])), (z2, .inl (cI, 10, .inl og)), (z3, .inl (cI, 10, .inl ow)), (z4, .inl (cI, 10, .inl ol)), (z7, .inl (cI, 10, .inl ft)), (z8, .inl (cI, 10, .inl fb))] H locs := hw
    revert hl; revert hw; revert ls; revert locs; revert H
    refine k_loop (fun ((i, fb1) : (Nat) × (Nat → Int32)) => i ≤ N ∧ ∀ j, j < i → fb1 j = ft j) (fun ((i, fb1) : (Nat) × (Nat → Int32)) => N - i) (fun ((i, fb1) : (Nat) × (Nat → Int32)) => [(h0, .inr (7, [.int th, .int (nI G), .ref z1, .int (nI mw), .int mg, .int up, .int ch, .int (nI N), .ref z2, .ref z3, .ref z4, .ref z5, .int sh, .int li, .int fp, .int sp, .int (nI hc), .ref z6, .int bk, .long fr, .long pa, .long lo, .long st, .long ma, .int ph, .int tr, .int (nI sm), .ref z7, .ref z8])), (z2, .inl (cI, 10, .inl og)), (z3, .inl (cI, 10, .inl ow)), (z4, .inl (cI, 10, .inl ol)), (z7, .inl (cI, 10, .inl ft)), (z8, .inl (cI, 10, .inl fb1))]) (fun ((i, fb1) : (Nat) × (Nat → Int32)) => [(5, .int (nI i)), (0, .ref h0), (1, .int p0), (2, .int (nI a)), (3, .int (nI rl)), (4, .int (nI sm))]) (0, fb) (show (0 : Nat) ≤ N ∧ ∀ j, j < (0 : Nat) → fb j = ft j from ⟨Nat.zero_le _, fun _ hj => absurd hj (Nat.not_lt_zero _)⟩) ?_
    intro ⟨i, fb1⟩ hI ih26 H locs ls hw hl
    replace hI : i ≤ N ∧ ∀ j, j < i → fb1 j = ft j := hI
    replace hw : kW D (kty cI cC cJ cG) s (va_A [(h0, .inr (7, [.int th, .int (nI G), .ref z1, .int (nI mw), .int mg, .int up, .int ch, .int (nI N), .ref z2, .ref z3, .ref z4, .ref z5, .int sh, .int li, .int fp, .int sp, .int (nI hc), .ref z6, .int bk, .long fr, .long pa, .long lo, .long st, .long ma, .int ph, .int tr, .int bs, .ref z7, .ref z8])), (z2, .inl (cI, 10, .inl og)), (z3, .inl (cI, 10, .inl ow)), (z4, .inl (cI, 10, .inl ol)), (z7, .inl (cI, 10, .inl ft)), (z8, .inl (cI, 10, .inl fb))] s.heap.size) [(h0, .inr (7, [.int th, .int (nI G), .ref z1, .int (nI mw), .int mg, .int up, .int ch, .int (nI N), .ref z2, .ref z3, .ref z4, .ref z5, .int sh, .int li, .int fp, .int sp, .int (nI hc), .ref z6, .int bk, .long fr, .long pa, .long lo, .long st, .long ma, .int ph, .int tr, .int (nI sm), .ref z7, .ref z8])), (z2, .inl (cI, 10, .inl og)), (z3, .inl (cI, 10, .inl ow)), (z4, .inl (cI, 10, .inl ol)), (z7, .inl (cI, 10, .inl ft)), (z8, .inl (cI, 10, .inl fb1))] H locs := hw
    replace hl : lv_has ls 7 [(5, .int (nI i)), (0, .ref h0), (1, .int p0), (2, .int (nI a)), (3, .int (nI rl)), (4, .int (nI sm))] := hl
    refine lv_iload hx hb dX5_tries_26 (lv_at hl 0 rfl) ?_
    refine lv_aload_n hx hb dX5_tries_28 rfl (lv_at hl 1 rfl) ?_
    refine k_get hx hb hts i_X5 hown hw 0 7 rfl rfl (by decide) k_f68 rfl dX5_tries_29 ?_
    refine lv_icmp_ge (tgt := 55) hx hb dX5_tries_32 (by decide) (fun c32 => ?_) (fun c32 => ?_)
    · have hi : N ≤ i := k_le c32 (by omega) (by omega)
      obtain rfl : a = N := by omega
      exact k_vret (fb1, ft, nI sm) hx hb hr hlocks hw ⟨tr_base (fb := fb) (Int32.not_le.mp c14) (fun j hj => hI.2 j (by omega)) hft, fun _ _ => rfl⟩ dX5_tries_55
    · have hi : i < N := k_lt c32 (by omega) (by omega)
      refine lv_aload_n hx hb dX5_tries_35 rfl (lv_at hl 1 rfl) ?_
      refine k_get hx hb hts i_X5 hown hw 0 28 rfl rfl (by decide) k_f55 rfl dX5_tries_36 ?_
      refine lv_iload hx hb dX5_tries_39 (lv_at hl 0 rfl) ?_
      refine lv_aload_n hx hb dX5_tries_41 rfl (lv_at hl 1 rfl) ?_
      refine k_get hx hb hts i_X5 hown hw 0 27 rfl rfl (by decide) k_f52 rfl dX5_tries_42 ?_
      refine lv_iload hx hb dX5_tries_45 (lv_at hl 0 rfl) ?_
      refine k_iald hx hb hw 4 0 rfl rfl i rfl (by omega) (Nat.le_of_ble_eq_true rfl) dX5_tries_47 ?_
      refine k_iast (ws' := [(h0, .inr (7, [.int th, .int (nI G), .ref z1, .int (nI mw), .int mg, .int up, .int ch, .int (nI N), .ref z2, .ref z3, .ref z4, .ref z5, .int sh, .int li, .int fp, .int sp, .int (nI hc), .ref z6, .int bk, .long fr, .long pa, .long lo, .long st, .long ma, .int ph, .int tr, .int (nI sm), .ref z7, .ref z8])), (z2, .inl (cI, 10, .inl og)), (z3, .inl (cI, 10, .inl ow)), (z4, .inl (cI, 10, .inl ol)), (z7, .inl (cI, 10, .inl ft)), (z8, .inl (cI, 10, .inl (upd fb1 i (ft i))))]) hx hb hw 5 0 rfl rfl i rfl (by omega) (Nat.le_of_ble_eq_true rfl) rfl dX5_tries_48 (fun H locs hw => ?_)
      refine lv_iinc (v := nI (i + 1)) (lv' := [(5, .int (nI (i + 1))), (0, .ref h0), (1, .int p0), (2, .int (nI a)), (3, .int (nI rl)), (4, .int (nI sm))]) hx hb dX5_tries_49 hl (k := 0) rfl (nI_1 i) (by decide) rfl (fun ls hl => ?_)
      refine lv_goto (tgt := 26) hx hb dX5_tries_52 (by decide) ?_
      exact ih26 ((i + 1), upd fb1 i (ft i)) _ _ _ (show (i + 1) ≤ N ∧ ∀ j, j < (i + 1) → (upd fb1 i (ft i)) j = ft j from ⟨by omega, fun j hj => by rcases Nat.lt_or_ge j i with q | q; exact (pk_un (by omega)).trans (hI.2 j q); (obtain rfl : j = i := by omega); exact pk_us⟩) (show N - (i + 1) < N - i from by omega) hw (lv_sub hl [0, 1, 2, 3, 4, 5] rfl)

set_option maxRecDepth 100000 in
set_option maxHeartbeats 8000000 in
theorem c_X5_tries_s (l : Launch) (D : va_G) (cI cC cJ cG : ClassId) (k : Nat) (ih : S_tries l D cI cC cJ cG k) : S_tries l D cI cC cJ cG (k + 1) := by
  intro h0 z2 z3 z4 z7 z8 sz z1 z5 z6 th G mw mg up ch N sh li fp sp hc bk fr pa lo st ma ph tr bs og ow ol ft fb p0 a rl sm lk w bv tv ha hN hrl hmw hsm hfw hfm hwb hlk hpos hfb hft
  unfold kMv
  refine k_ofW (cc := cX5_tries) (maxL := 7) (ret := none) (lv := [(0, .ref h0), (1, .int p0), (2, .int (nI a)), (3, .int (nI rl)), (4, .int (nI sm))]) (by decide) rfl (Nat.le_of_ble_eq_true rfl) rfl ?_
  intro p e s m args below meth c ls H locs hE hsz hw hl
  obtain ⟨hx, hb, hr, hml, hown, hts, hlocks⟩ := hE
  subst hsz
  have hown : s.vm.findClass RX5 = some m.cls := hown
  have k_f68 : (Cond.fieldLink RX5 68 "PaperMachineModel" "orders" "I").before args s = true := hts _ (by decide +kernel)
  have k_f24 : (Cond.fieldLink RX5 24 "PaperMachineModel" "orderGrade" "[I").before args s = true := hts _ (by decide +kernel)
  have k_f13 : (Cond.fieldLink RX5 13 "PaperMachineModel" "width" "I").before args s = true := hts _ (by decide +kernel)
  have k_f27 : (Cond.fieldLink RX5 27 "PaperMachineModel" "orderWidth" "[I").before args s = true := hts _ (by decide +kernel)
  have k_f52 : (Cond.fieldLink RX5 52 "PaperMachineModel" "trial" "[I").before args s = true := hts _ (by decide +kernel)
  have k_f30 : (Cond.fieldLink RX5 30 "PaperMachineModel" "lacks" "[I").before args s = true := hts _ (by decide +kernel)
  have i_X5 : ∀ w ∈ u_ws RX5 TX5 29, w ∈ wsX5_tries := fun _ h => List.mem_cons_of_mem _ (List.mem_append_left _ (List.mem_append_left _ (List.mem_append_right _ h)))
  refine lv_iload_n hx hb dX5_tries_0 rfl (lv_at hl 2 rfl) ?_
  refine lv_aload_n hx hb dX5_tries_1 rfl (lv_at hl 0 rfl) ?_
  refine k_get hx hb hts i_X5 hown hw 0 7 rfl rfl (by decide) k_f68 rfl dX5_tries_2 ?_
  refine lv_icmp_ne (tgt := 56) hx hb dX5_tries_5 (by decide) (fun c5 => ?_) (fun c5 => False.elim (absurd ((nI_eq (by omega) (by omega)).mp c5) (by omega)))
  have ha10 : a < 10 := by omega
  have hwa := hwb a ha10
  have hlka := hlk a ha10
  have hwp : 0 < w a := hpos a (by omega)
  have hcpa : m_cap og lk p0 a ≤ 1000 := m_cap_le hlka
  have hdv : (mw - sm) / w a ≤ mw - sm := Nat.div_le_self _ _
  refine lv_aload_n hx hb dX5_tries_56 rfl (lv_at hl 0 rfl) ?_
  refine k_get hx hb hts i_X5 hown hw 0 8 rfl rfl (by decide) k_f24 rfl dX5_tries_57 ?_
  refine lv_iload_n hx hb dX5_tries_60 rfl (lv_at hl 2 rfl) ?_
  refine k_iald hx hb hw 1 0 rfl rfl a rfl (by omega) (Nat.le_of_ble_eq_true rfl) dX5_tries_61 ?_
  refine lv_iload_n hx hb dX5_tries_62 rfl (lv_at hl 1 rfl) ?_
  refine lv_icmp_ne (tgt := 75) hx hb dX5_tries_63 (by decide) (fun c63 => ?_) (fun c63 => ?_)
  · refine lv_iconst (v := 0) hx hb dX5_tries_75 (by decide) ?_
    refine k_eqi (y := nI (m_cap og lk p0 a)) (congrArg nI (m_cap_f c63).symm) ?_
    refine lv_istore (lv' := [(5, .int (nI (m_cap og lk p0 a))), (0, .ref h0), (1, .int p0), (2, .int (nI a)), (3, .int (nI rl)), (4, .int (nI sm))]) hx hb dX5_tries_76 hl (by decide) rfl (fun ls hl => ?_)
    refine lv_iload hx hb dX5_tries_78 (lv_at hl 0 rfl) ?_
    refine lv_bipush (v := 6) hx hb dX5_tries_80 (by decide) ?_
    refine lv_iload_n hx hb dX5_tries_82 rfl (lv_at hl 4 rfl) ?_
    refine lv_isub hx hb dX5_tries_83 ?_
    refine k_eqi (y := nI (6 - rl)) (pk_sub (a := 6) hrl) ?_
    refine lv_icmp_ge (tgt := 92) hx hb dX5_tries_84 (by decide) (fun c84 => ?_) (fun c84 => ?_)
    · refine lv_bipush (v := 6) hx hb dX5_tries_92 (by decide) ?_
      refine lv_iload_n hx hb dX5_tries_94 rfl (lv_at hl 4 rfl) ?_
      refine lv_isub hx hb dX5_tries_95 ?_
      refine k_eqi (y := nI (min (m_cap og lk p0 a) (6 - rl))) ((pk_sub (a := 6) hrl).trans (m_min_t (by omega) (by omega) c84)) ?_
      refine lv_istore (lv' := [(5, .int (nI (min (m_cap og lk p0 a) (6 - rl)))), (0, .ref h0), (1, .int p0), (2, .int (nI a)), (3, .int (nI rl)), (4, .int (nI sm))]) hx hb dX5_tries_96 hl (by decide) rfl (fun ls hl => ?_)
      refine lv_iload hx hb dX5_tries_98 (lv_at hl 0 rfl) ?_
      refine lv_aload_n hx hb dX5_tries_100 rfl (lv_at hl 1 rfl) ?_
      refine k_get hx hb hts i_X5 hown hw 0 3 rfl rfl (by decide) k_f13 rfl dX5_tries_101 ?_
      refine lv_iload hx hb dX5_tries_104 (lv_at hl 5 rfl) ?_
      refine lv_isub hx hb dX5_tries_106 ?_
      refine k_eqi (y := nI (mw - sm)) (pk_sub hsm) ?_
      refine lv_aload_n hx hb dX5_tries_107 rfl (lv_at hl 1 rfl) ?_
      refine k_get hx hb hts i_X5 hown hw 0 9 rfl rfl (by decide) k_f27 rfl dX5_tries_108 ?_
      refine lv_iload_n hx hb dX5_tries_111 rfl (lv_at hl 3 rfl) ?_
      refine k_iald hx hb hw 2 0 rfl rfl a rfl (by omega) (Nat.le_of_ble_eq_true rfl) dX5_tries_112 ?_
      refine k_eqi (y := nI (w a)) (hfw a ha10) ?_
      refine lv_idiv hx hb dX5_tries_113 (nI_ne0 hwp (by omega)) ?_
      refine k_eqi (y := nI ((mw - sm) / w a)) (pk_div (by omega) hwp (by omega)) ?_
      refine lv_icmp_ge (tgt := 122) hx hb dX5_tries_114 (by decide) (fun c114 => ?_) (fun c114 => ?_)
      · refine lv_aload_n hx hb dX5_tries_122 rfl (lv_at hl 1 rfl) ?_
        refine k_get hx hb hts i_X5 hown hw 0 3 rfl rfl (by decide) k_f13 rfl dX5_tries_123 ?_
        refine lv_iload hx hb dX5_tries_126 (lv_at hl 5 rfl) ?_
        refine lv_isub hx hb dX5_tries_128 ?_
        refine k_eqi (y := nI (mw - sm)) (pk_sub hsm) ?_
        refine lv_aload_n hx hb dX5_tries_129 rfl (lv_at hl 1 rfl) ?_
        refine k_get hx hb hts i_X5 hown hw 0 9 rfl rfl (by decide) k_f27 rfl dX5_tries_130 ?_
        refine lv_iload_n hx hb dX5_tries_133 rfl (lv_at hl 3 rfl) ?_
        refine k_iald hx hb hw 2 0 rfl rfl a rfl (by omega) (Nat.le_of_ble_eq_true rfl) dX5_tries_134 ?_
        refine k_eqi (y := nI (w a)) (hfw a ha10) ?_
        refine lv_idiv hx hb dX5_tries_135 (nI_ne0 hwp (by omega)) ?_
        refine k_eqi (y := nI (min (min (m_cap og lk p0 a) (6 - rl)) ((mw - sm) / w a))) ((pk_div (by omega) hwp (by omega)).trans (m_min_t (by omega) (by omega) c114)) ?_
        refine lv_istore (lv' := [(5, .int (nI (min (min (m_cap og lk p0 a) (6 - rl)) ((mw - sm) / w a)))), (0, .ref h0), (1, .int p0), (2, .int (nI a)), (3, .int (nI rl)), (4, .int (nI sm))]) hx hb dX5_tries_136 hl (by decide) rfl (fun ls hl => ?_)
        refine lv_iload hx hb dX5_tries_138 (lv_at hl 0 rfl) ?_
        refine lv_istore (lv' := [(6, .int (nI (min (min (m_cap og lk p0 a) (6 - rl)) ((mw - sm) / w a)))), (5, .int (nI (min (min (m_cap og lk p0 a) (6 - rl)) ((mw - sm) / w a)))), (0, .ref h0), (1, .int p0), (2, .int (nI a)), (3, .int (nI rl)), (4, .int (nI sm))]) hx hb dX5_tries_140 hl (by decide) rfl (fun ls hl => ?_)
        replace hl : lv_has _ 7 [(6, .int (nI (min (min (m_cap og lk p0 a) (6 - rl)) ((mw - sm) / w a)))), (0, .ref h0), (1, .int p0), (2, .int (nI a)), (3, .int (nI rl)), (4, .int (nI sm))] := lv_sub hl [0, 2, 3, 4, 5, 6] rfl
        replace hw : kW D (kty cI cC cJ cG) s (va_A [(h0, .inr (7, [.int th, .int (nI G), .ref z1, .int (nI mw), .int mg, .int up, .int ch, .int (nI N), .ref z2, .ref z3, .ref z4, .ref z5, .int sh, .int li, .int fp, .int sp, .int (nI hc), .ref z6, .int bk, .long fr, .long pa, .long lo, .long st, .long ma, .int ph, .int tr, .int bs, .ref z7, .ref z8])), (z2, .inl (cI, 10, .inl og)), (z3, .inl (cI, 10, .inl ow)), (z4, .inl (cI, 10, .inl ol)), (z7, .inl (cI, 10, .inl ft)), (z8, .inl (cI, 10, .inl fb))] s.heap.size) [(h0, .inr (7, [.int th, .int (nI G), .ref z1, .int (nI mw), .int mg, .int up, .int ch, .int (nI N), .ref z2, .ref z3, .ref z4, .ref z5, .int sh, .int li, .int fp, .int sp, .int (nI hc), .ref z6, .int bk, .long fr, .long pa, .long lo, .long st, .long ma, .int ph, .int tr, .int bs, .ref z7, .ref z8])), (z2, .inl (cI, 10, .inl og)), (z3, .inl (cI, 10, .inl ow)), (z4, .inl (cI, 10, .inl ol)), (z7, .inl (cI, 10, .inl ft)), (z8, .inl (cI, 10, .inl fb))] H locs := hw
        revert hl; revert hw; revert ls; revert locs; revert H
        refine k_loop (fun ((q, x, fb1, ft1, bs1) : (Nat) × (Int32) × (Nat → Int32) × (Nat → Int32) × (Int32)) => q ≤ min (min (m_cap og lk p0 a) (6 - rl)) ((mw - sm) / w a) + 1 ∧ x = nI q - 1 ∧ (∃ bv1 : Nat → Nat, (∀ j, j < N → fb1 j = nI (bv1 j)) ∧ ct_L (ct_g (m_cap og lk p0) w k a (6 - rl) (mw - sm) sm tv) q (bs1, bv1) = ct_L (ct_g (m_cap og lk p0) w k a (6 - rl) (mw - sm) sm tv) (min (min (m_cap og lk p0 a) (6 - rl)) ((mw - sm) / w a) + 1) (bs, bv)) ∧ ∀ j, j < a → ft1 j = ft j) (fun ((q, x, fb1, ft1, bs1) : (Nat) × (Int32) × (Nat → Int32) × (Nat → Int32) × (Int32)) => q) (fun ((q, x, fb1, ft1, bs1) : (Nat) × (Int32) × (Nat → Int32) × (Nat → Int32) × (Int32)) => [(h0, .inr (7, [.int th, .int (nI G), .ref z1, .int (nI mw), .int mg, .int up, .int ch, .int (nI N), .ref z2, .ref z3, .ref z4, .ref z5, .int sh, .int li, .int fp, .int sp, .int (nI hc), .ref z6, .int bk, .long fr, .long pa, .long lo, .long st, .long ma, .int ph, .int tr, .int bs1, .ref z7, .ref z8])), (z2, .inl (cI, 10, .inl og)), (z3, .inl (cI, 10, .inl ow)), (z4, .inl (cI, 10, .inl ol)), (z7, .inl (cI, 10, .inl ft1)), (z8, .inl (cI, 10, .inl fb1))]) (fun ((q, x, fb1, ft1, bs1) : (Nat) × (Int32) × (Nat → Int32) × (Nat → Int32) × (Int32)) => [(6, .int x), (0, .ref h0), (1, .int p0), (2, .int (nI a)), (3, .int (nI rl)), (4, .int (nI sm))]) (min (min (m_cap og lk p0 a) (6 - rl)) ((mw - sm) / w a) + 1, nI (min (min (m_cap og lk p0 a) (6 - rl)) ((mw - sm) / w a)), fb, ft, bs) (show (min (min (m_cap og lk p0 a) (6 - rl)) ((mw - sm) / w a) + 1) ≤ min (min (m_cap og lk p0 a) (6 - rl)) ((mw - sm) / w a) + 1 ∧ (nI (min (min (m_cap og lk p0 a) (6 - rl)) ((mw - sm) / w a))) = nI (min (min (m_cap og lk p0 a) (6 - rl)) ((mw - sm) / w a) + 1) - 1 ∧ (∃ bv1 : Nat → Nat, (∀ j, j < N → fb j = nI (bv1 j)) ∧ ct_L (ct_g (m_cap og lk p0) w k a (6 - rl) (mw - sm) sm tv) (min (min (m_cap og lk p0 a) (6 - rl)) ((mw - sm) / w a) + 1) (bs, bv1) = ct_L (ct_g (m_cap og lk p0) w k a (6 - rl) (mw - sm) sm tv) (min (min (m_cap og lk p0 a) (6 - rl)) ((mw - sm) / w a) + 1) (bs, bv)) ∧ ∀ j, j < a → ft j = ft j from ⟨Nat.le_refl _, (nI_pred _).symm, ⟨bv, hfb, rfl⟩, fun _ _ => rfl⟩) ?_
        intro ⟨q, x, fb1, ft1, bs1⟩ hI ih142 H locs ls hw hl
        replace hI : q ≤ min (min (m_cap og lk p0 a) (6 - rl)) ((mw - sm) / w a) + 1 ∧ x = nI q - 1 ∧ (∃ bv1 : Nat → Nat, (∀ j, j < N → fb1 j = nI (bv1 j)) ∧ ct_L (ct_g (m_cap og lk p0) w k a (6 - rl) (mw - sm) sm tv) q (bs1, bv1) = ct_L (ct_g (m_cap og lk p0) w k a (6 - rl) (mw - sm) sm tv) (min (min (m_cap og lk p0 a) (6 - rl)) ((mw - sm) / w a) + 1) (bs, bv)) ∧ ∀ j, j < a → ft1 j = ft j := hI
        replace hw : kW D (kty cI cC cJ cG) s (va_A [(h0, .inr (7, [.int th, .int (nI G), .ref z1, .int (nI mw), .int mg, .int up, .int ch, .int (nI N), .ref z2, .ref z3, .ref z4, .ref z5, .int sh, .int li, .int fp, .int sp, .int (nI hc), .ref z6, .int bk, .long fr, .long pa, .long lo, .long st, .long ma, .int ph, .int tr, .int bs, .ref z7, .ref z8])), (z2, .inl (cI, 10, .inl og)), (z3, .inl (cI, 10, .inl ow)), (z4, .inl (cI, 10, .inl ol)), (z7, .inl (cI, 10, .inl ft)), (z8, .inl (cI, 10, .inl fb))] s.heap.size) [(h0, .inr (7, [.int th, .int (nI G), .ref z1, .int (nI mw), .int mg, .int up, .int ch, .int (nI N), .ref z2, .ref z3, .ref z4, .ref z5, .int sh, .int li, .int fp, .int sp, .int (nI hc), .ref z6, .int bk, .long fr, .long pa, .long lo, .long st, .long ma, .int ph, .int tr, .int bs1, .ref z7, .ref z8])), (z2, .inl (cI, 10, .inl og)), (z3, .inl (cI, 10, .inl ow)), (z4, .inl (cI, 10, .inl ol)), (z7, .inl (cI, 10, .inl ft1)), (z8, .inl (cI, 10, .inl fb1))] H locs := hw
        replace hl : lv_has ls 7 [(6, .int x), (0, .ref h0), (1, .int p0), (2, .int (nI a)), (3, .int (nI rl)), (4, .int (nI sm))] := hl
        refine lv_iload hx hb dX5_tries_142 (lv_at hl 0 rfl) ?_
        refine lv_if_lt (tgt := 185) hx hb dX5_tries_144 (by decide) (fun c144 => ?_) (fun c144 => ?_)
        · have hq0 : q = 0 := by rcases Nat.eq_zero_or_pos q with z | z; exact z; (obtain ⟨t, rfl⟩ : ∃ t, q = t + 1 := ⟨q - 1, by omega⟩); (rw [hI.2.1, nI_pred] at c144); exact absurd c144 (Int32.not_lt.mpr (nI_pos' (by omega)))
          obtain ⟨-, -, ⟨bv1, hok, hT⟩, hft1⟩ := hI
          rw [hq0, ct_L, ct_g_node (m_cap og lk p0) w k a (6 - rl) (mw - sm) sm tv (by omega) (bs, bv) _ rfl] at hT
          exact k_vret (fb1, ft1, bs1) hx hb hr hlocks hw ⟨by rw [← hT]; exact ⟨rfl, hok⟩, hft1⟩ dX5_tries_185
        · obtain ⟨t, rfl⟩ : ∃ t, q = t + 1 := ⟨q - 1, by rcases Nat.eq_zero_or_pos q with z | z; (subst z; exact absurd (by rw [hI.2.1]; decide) c144); omega⟩
          obtain rfl : x = nI t := by rw [hI.2.1]; exact nI_pred t
          obtain ⟨hq, -, ⟨bv1, hok, hT⟩, hft1⟩ := hI
          have ht6 : t ≤ 6 - rl := by omega
          have htw : t * w a ≤ mw - sm := ct_mul (show t ≤ (mw - sm) / w a by omega)
          refine lv_aload_n hx hb dX5_tries_147 rfl (lv_at hl 1 rfl) ?_
          refine k_get hx hb hts i_X5 hown hw 0 27 rfl rfl (by decide) k_f52 rfl dX5_tries_148 ?_
          refine lv_iload_n hx hb dX5_tries_151 rfl (lv_at hl 3 rfl) ?_
          refine lv_iload hx hb dX5_tries_152 (lv_at hl 0 rfl) ?_
          refine k_iast (ws' := [(h0, .inr (7, [.int th, .int (nI G), .ref z1, .int (nI mw), .int mg, .int up, .int ch, .int (nI N), .ref z2, .ref z3, .ref z4, .ref z5, .int sh, .int li, .int fp, .int sp, .int (nI hc), .ref z6, .int bk, .long fr, .long pa, .long lo, .long st, .long ma, .int ph, .int tr, .int bs1, .ref z7, .ref z8])), (z2, .inl (cI, 10, .inl og)), (z3, .inl (cI, 10, .inl ow)), (z4, .inl (cI, 10, .inl ol)), (z7, .inl (cI, 10, .inl (upd ft1 a (nI t)))), (z8, .inl (cI, 10, .inl fb1))]) hx hb hw 4 0 rfl rfl a rfl (by omega) (Nat.le_of_ble_eq_true rfl) rfl dX5_tries_154 (fun H locs hw => ?_)
          refine lv_aload_n hx hb dX5_tries_155 rfl (lv_at hl 1 rfl) ?_
          refine lv_iload_n hx hb dX5_tries_156 rfl (lv_at hl 2 rfl) ?_
          refine lv_iload_n hx hb dX5_tries_157 rfl (lv_at hl 3 rfl) ?_
          refine lv_iconst (v := 1) hx hb dX5_tries_158 (by decide) ?_
          refine lv_iadd hx hb dX5_tries_159 ?_
          refine k_eqi (nI_1 a) ?_
          refine lv_iload_n hx hb dX5_tries_160 rfl (lv_at hl 4 rfl) ?_
          refine lv_iload hx hb dX5_tries_161 (lv_at hl 0 rfl) ?_
          refine lv_iadd hx hb dX5_tries_163 ?_
          refine k_eqi (y := nI (rl + t)) (nI_add _ _) ?_
          refine lv_iload hx hb dX5_tries_164 (lv_at hl 5 rfl) ?_
          refine lv_iload hx hb dX5_tries_166 (lv_at hl 0 rfl) ?_
          refine lv_aload_n hx hb dX5_tries_168 rfl (lv_at hl 1 rfl) ?_
          refine k_get hx hb hts i_X5 hown hw 0 9 rfl rfl (by decide) k_f27 rfl dX5_tries_169 ?_
          refine lv_iload_n hx hb dX5_tries_172 rfl (lv_at hl 3 rfl) ?_
          refine k_iald hx hb hw 2 0 rfl rfl a rfl (by omega) (Nat.le_of_ble_eq_true rfl) dX5_tries_173 ?_
          refine k_eqi (y := nI (w a)) (hfw a ha10) ?_
          refine lv_imul hx hb dX5_tries_174 ?_
          refine k_eqi (y := nI (t * w a)) (pk_mul t (w a)) ?_
          refine lv_iadd hx hb dX5_tries_175 ?_
          refine k_eqi (y := nI (sm + t * w a)) (nI_add _ _) ?_
          refine k_callv (wr := []) (k_runV (wc := [(h0, .inr (7, [.int th, .int (nI G), .ref z1, .int (nI mw), .int mg, .int up, .int ch, .int (nI N), .ref z2, .ref z3, .ref z4, .ref z5, .int sh, .int li, .int fp, .int sp, .int (nI hc), .ref z6, .int bk, .long fr, .long pa, .long lo, .long st, .long ma, .int ph, .int tr, .int bs1, .ref z7, .ref z8])), (z2, .inl (cI, 10, .inl og)), (z3, .inl (cI, 10, .inl ow)), (z4, .inl (cI, 10, .inl ol)), (z7, .inl (cI, 10, .inl (upd ft1 a (nI t)))), (z8, .inl (cI, 10, .inl fb1))]) (As := [.int p0, .int (nI (a + 1)), .int (nI (rl + t)), .int (nI (sm + t * w a))]) (rest := []) ⟨hx, hb, hml, hown, hts⟩ (ih h0 z2 z3 z4 z7 z8 H.size z1 z5 z6 th G mw mg up ch N sh li fp sp hc bk fr pa lo st ma ph tr bs1 og ow ol (upd ft1 a (nI t)) fb1 p0 (a + 1) (rl + t) (sm + t * w a) lk w bv1 (fun j => if j = a then t else tv j) (by omega) hN (by omega) hmw (by omega) hfw hfm hwb hlk hpos hok (sr_tv hft1 hft)) (cwV 4 hts gX5_tries_X5_tries rfl rfl rfl (by decide +kernel) ⟨by dsimp only; omega, by dsimp only; omega⟩) hw [0, 1, 2, 3, 4, 5] (by decide) rfl 0 rfl rfl rfl hl.1 rfl (Nat.le_of_ble_eq_true rfl) dX5_tries_176 ⟨Nat.zero_le _, Nat.zero_le _⟩) hw [0, 1, 2, 3, 4, 5] [] rfl rfl (by decide) (by decide) (fun u176 H locs w176 hw => ?_)
          obtain ⟨fb2_176, ft2_176, bs2_176⟩ := u176
          replace hw : kW D (kty cI cC cJ cG) s (va_A [(h0, .inr (7, [.int th, .int (nI G), .ref z1, .int (nI mw), .int mg, .int up, .int ch, .int (nI N), .ref z2, .ref z3, .ref z4, .ref z5, .int sh, .int li, .int fp, .int sp, .int (nI hc), .ref z6, .int bk, .long fr, .long pa, .long lo, .long st, .long ma, .int ph, .int tr, .int bs, .ref z7, .ref z8])), (z2, .inl (cI, 10, .inl og)), (z3, .inl (cI, 10, .inl ow)), (z4, .inl (cI, 10, .inl ol)), (z7, .inl (cI, 10, .inl ft)), (z8, .inl (cI, 10, .inl fb))] s.heap.size) [(h0, .inr (7, [.int th, .int (nI G), .ref z1, .int (nI mw), .int mg, .int up, .int ch, .int (nI N), .ref z2, .ref z3, .ref z4, .ref z5, .int sh, .int li, .int fp, .int sp, .int (nI hc), .ref z6, .int bk, .long fr, .long pa, .long lo, .long st, .long ma, .int ph, .int tr, .int bs2_176, .ref z7, .ref z8])), (z2, .inl (cI, 10, .inl og)), (z3, .inl (cI, 10, .inl ow)), (z4, .inl (cI, 10, .inl ol)), (z7, .inl (cI, 10, .inl ft2_176)), (z8, .inl (cI, 10, .inl fb2_176))] H locs := hw
          obtain ⟨⟨hb2, hfb2⟩, hft2⟩ := w176
          rw [tr_try ht6] at hb2 hfb2
          refine lv_iinc (v := (nI t) + (-1)) (lv' := [(6, .int ((nI t) + (-1))), (0, .ref h0), (1, .int p0), (2, .int (nI a)), (3, .int (nI rl)), (4, .int (nI sm))]) hx hb dX5_tries_179 hl (k := 0) rfl rfl (by decide) rfl (fun ls hl => ?_)
          refine lv_goto (tgt := 142) hx hb dX5_tries_182 (by decide) ?_
          exact ih142 (t, (nI t) + (-1), fb2_176, ft2_176, bs2_176) _ _ _ (show t ≤ min (min (m_cap og lk p0 a) (6 - rl)) ((mw - sm) / w a) + 1 ∧ ((nI t) + (-1)) = nI t - 1 ∧ (∃ bv1 : Nat → Nat, (∀ j, j < N → fb2_176 j = nI (bv1 j)) ∧ ct_L (ct_g (m_cap og lk p0) w k a (6 - rl) (mw - sm) sm tv) t (bs2_176, bv1) = ct_L (ct_g (m_cap og lk p0) w k a (6 - rl) (mw - sm) sm tv) (min (min (m_cap og lk p0 a) (6 - rl)) ((mw - sm) / w a) + 1) (bs, bv)) ∧ ∀ j, j < a → ft2_176 j = ft j from ⟨by omega, i_m1 t, ⟨_, hfb2, by rw [hb2, ← hT, ct_L]⟩, fun j hj => by rw [hft2 j (by omega), pk_un (by omega)]; exact hft1 j hj⟩) (show t < (t + 1) from by omega) hw (lv_sub hl [0, 1, 2, 3, 4, 5] rfl)
      · refine lv_iload hx hb dX5_tries_117 (lv_at hl 0 rfl) ?_
        refine k_eqi (y := nI (min (min (m_cap og lk p0 a) (6 - rl)) ((mw - sm) / w a))) (m_min_f (by omega) (by omega) c114) ?_
        refine lv_goto (tgt := 136) hx hb dX5_tries_119 (by decide) ?_
        refine lv_istore (lv' := [(5, .int (nI (min (min (m_cap og lk p0 a) (6 - rl)) ((mw - sm) / w a)))), (0, .ref h0), (1, .int p0), (2, .int (nI a)), (3, .int (nI rl)), (4, .int (nI sm))]) hx hb dX5_tries_136 hl (by decide) rfl (fun ls hl => ?_)
        refine lv_iload hx hb dX5_tries_138 (lv_at hl 0 rfl) ?_
        refine lv_istore (lv' := [(6, .int (nI (min (min (m_cap og lk p0 a) (6 - rl)) ((mw - sm) / w a)))), (5, .int (nI (min (min (m_cap og lk p0 a) (6 - rl)) ((mw - sm) / w a)))), (0, .ref h0), (1, .int p0), (2, .int (nI a)), (3, .int (nI rl)), (4, .int (nI sm))]) hx hb dX5_tries_140 hl (by decide) rfl (fun ls hl => ?_)
        replace hl : lv_has _ 7 [(6, .int (nI (min (min (m_cap og lk p0 a) (6 - rl)) ((mw - sm) / w a)))), (0, .ref h0), (1, .int p0), (2, .int (nI a)), (3, .int (nI rl)), (4, .int (nI sm))] := lv_sub hl [0, 2, 3, 4, 5, 6] rfl
        replace hw : kW D (kty cI cC cJ cG) s (va_A [(h0, .inr (7, [.int th, .int (nI G), .ref z1, .int (nI mw), .int mg, .int up, .int ch, .int (nI N), .ref z2, .ref z3, .ref z4, .ref z5, .int sh, .int li, .int fp, .int sp, .int (nI hc), .ref z6, .int bk, .long fr, .long pa, .long lo, .long st, .long ma, .int ph, .int tr, .int bs, .ref z7, .ref z8])), (z2, .inl (cI, 10, .inl og)), (z3, .inl (cI, 10, .inl ow)), (z4, .inl (cI, 10, .inl ol)), (z7, .inl (cI, 10, .inl ft)), (z8, .inl (cI, 10, .inl fb))] s.heap.size) [(h0, .inr (7, [.int th, .int (nI G), .ref z1, .int (nI mw), .int mg, .int up, .int ch, .int (nI N), .ref z2, .ref z3, .ref z4, .ref z5, .int sh, .int li, .int fp, .int sp, .int (nI hc), .ref z6, .int bk, .long fr, .long pa, .long lo, .long st, .long ma, .int ph, .int tr, .int bs, .ref z7, .ref z8])), (z2, .inl (cI, 10, .inl og)), (z3, .inl (cI, 10, .inl ow)), (z4, .inl (cI, 10, .inl ol)), (z7, .inl (cI, 10, .inl ft)), (z8, .inl (cI, 10, .inl fb))] H locs := hw
        revert hl; revert hw; revert ls; revert locs; revert H
        refine k_loop (fun ((q, x, fb1, ft1, bs1) : (Nat) × (Int32) × (Nat → Int32) × (Nat → Int32) × (Int32)) => q ≤ min (min (m_cap og lk p0 a) (6 - rl)) ((mw - sm) / w a) + 1 ∧ x = nI q - 1 ∧ (∃ bv1 : Nat → Nat, (∀ j, j < N → fb1 j = nI (bv1 j)) ∧ ct_L (ct_g (m_cap og lk p0) w k a (6 - rl) (mw - sm) sm tv) q (bs1, bv1) = ct_L (ct_g (m_cap og lk p0) w k a (6 - rl) (mw - sm) sm tv) (min (min (m_cap og lk p0 a) (6 - rl)) ((mw - sm) / w a) + 1) (bs, bv)) ∧ ∀ j, j < a → ft1 j = ft j) (fun ((q, x, fb1, ft1, bs1) : (Nat) × (Int32) × (Nat → Int32) × (Nat → Int32) × (Int32)) => q) (fun ((q, x, fb1, ft1, bs1) : (Nat) × (Int32) × (Nat → Int32) × (Nat → Int32) × (Int32)) => [(h0, .inr (7, [.int th, .int (nI G), .ref z1, .int (nI mw), .int mg, .int up, .int ch, .int (nI N), .ref z2, .ref z3, .ref z4, .ref z5, .int sh, .int li, .int fp, .int sp, .int (nI hc), .ref z6, .int bk, .long fr, .long pa, .long lo, .long st, .long ma, .int ph, .int tr, .int bs1, .ref z7, .ref z8])), (z2, .inl (cI, 10, .inl og)), (z3, .inl (cI, 10, .inl ow)), (z4, .inl (cI, 10, .inl ol)), (z7, .inl (cI, 10, .inl ft1)), (z8, .inl (cI, 10, .inl fb1))]) (fun ((q, x, fb1, ft1, bs1) : (Nat) × (Int32) × (Nat → Int32) × (Nat → Int32) × (Int32)) => [(6, .int x), (0, .ref h0), (1, .int p0), (2, .int (nI a)), (3, .int (nI rl)), (4, .int (nI sm))]) (min (min (m_cap og lk p0 a) (6 - rl)) ((mw - sm) / w a) + 1, nI (min (min (m_cap og lk p0 a) (6 - rl)) ((mw - sm) / w a)), fb, ft, bs) (show (min (min (m_cap og lk p0 a) (6 - rl)) ((mw - sm) / w a) + 1) ≤ min (min (m_cap og lk p0 a) (6 - rl)) ((mw - sm) / w a) + 1 ∧ (nI (min (min (m_cap og lk p0 a) (6 - rl)) ((mw - sm) / w a))) = nI (min (min (m_cap og lk p0 a) (6 - rl)) ((mw - sm) / w a) + 1) - 1 ∧ (∃ bv1 : Nat → Nat, (∀ j, j < N → fb j = nI (bv1 j)) ∧ ct_L (ct_g (m_cap og lk p0) w k a (6 - rl) (mw - sm) sm tv) (min (min (m_cap og lk p0 a) (6 - rl)) ((mw - sm) / w a) + 1) (bs, bv1) = ct_L (ct_g (m_cap og lk p0) w k a (6 - rl) (mw - sm) sm tv) (min (min (m_cap og lk p0 a) (6 - rl)) ((mw - sm) / w a) + 1) (bs, bv)) ∧ ∀ j, j < a → ft j = ft j from ⟨Nat.le_refl _, (nI_pred _).symm, ⟨bv, hfb, rfl⟩, fun _ _ => rfl⟩) ?_
        intro ⟨q, x, fb1, ft1, bs1⟩ hI ih142 H locs ls hw hl
        replace hI : q ≤ min (min (m_cap og lk p0 a) (6 - rl)) ((mw - sm) / w a) + 1 ∧ x = nI q - 1 ∧ (∃ bv1 : Nat → Nat, (∀ j, j < N → fb1 j = nI (bv1 j)) ∧ ct_L (ct_g (m_cap og lk p0) w k a (6 - rl) (mw - sm) sm tv) q (bs1, bv1) = ct_L (ct_g (m_cap og lk p0) w k a (6 - rl) (mw - sm) sm tv) (min (min (m_cap og lk p0 a) (6 - rl)) ((mw - sm) / w a) + 1) (bs, bv)) ∧ ∀ j, j < a → ft1 j = ft j := hI
        replace hw : kW D (kty cI cC cJ cG) s (va_A [(h0, .inr (7, [.int th, .int (nI G), .ref z1, .int (nI mw), .int mg, .int up, .int ch, .int (nI N), .ref z2, .ref z3, .ref z4, .ref z5, .int sh, .int li, .int fp, .int sp, .int (nI hc), .ref z6, .int bk, .long fr, .long pa, .long lo, .long st, .long ma, .int ph, .int tr, .int bs, .ref z7, .ref z8])), (z2, .inl (cI, 10, .inl og)), (z3, .inl (cI, 10, .inl ow)), (z4, .inl (cI, 10, .inl ol)), (z7, .inl (cI, 10, .inl ft)), (z8, .inl (cI, 10, .inl fb))] s.heap.size) [(h0, .inr (7, [.int th, .int (nI G), .ref z1, .int (nI mw), .int mg, .int up, .int ch, .int (nI N), .ref z2, .ref z3, .ref z4, .ref z5, .int sh, .int li, .int fp, .int sp, .int (nI hc), .ref z6, .int bk, .long fr, .long pa, .long lo, .long st, .long ma, .int ph, .int tr, .int bs1, .ref z7, .ref z8])), (z2, .inl (cI, 10, .inl og)), (z3, .inl (cI, 10, .inl ow)), (z4, .inl (cI, 10, .inl ol)), (z7, .inl (cI, 10, .inl ft1)), (z8, .inl (cI, 10, .inl fb1))] H locs := hw
        replace hl : lv_has ls 7 [(6, .int x), (0, .ref h0), (1, .int p0), (2, .int (nI a)), (3, .int (nI rl)), (4, .int (nI sm))] := hl
        refine lv_iload hx hb dX5_tries_142 (lv_at hl 0 rfl) ?_
        refine lv_if_lt (tgt := 185) hx hb dX5_tries_144 (by decide) (fun c144 => ?_) (fun c144 => ?_)
        · have hq0 : q = 0 := by rcases Nat.eq_zero_or_pos q with z | z; exact z; (obtain ⟨t, rfl⟩ : ∃ t, q = t + 1 := ⟨q - 1, by omega⟩); (rw [hI.2.1, nI_pred] at c144); exact absurd c144 (Int32.not_lt.mpr (nI_pos' (by omega)))
          obtain ⟨-, -, ⟨bv1, hok, hT⟩, hft1⟩ := hI
          rw [hq0, ct_L, ct_g_node (m_cap og lk p0) w k a (6 - rl) (mw - sm) sm tv (by omega) (bs, bv) _ rfl] at hT
          exact k_vret (fb1, ft1, bs1) hx hb hr hlocks hw ⟨by rw [← hT]; exact ⟨rfl, hok⟩, hft1⟩ dX5_tries_185
        · obtain ⟨t, rfl⟩ : ∃ t, q = t + 1 := ⟨q - 1, by rcases Nat.eq_zero_or_pos q with z | z; (subst z; exact absurd (by rw [hI.2.1]; decide) c144); omega⟩
          obtain rfl : x = nI t := by rw [hI.2.1]; exact nI_pred t
          obtain ⟨hq, -, ⟨bv1, hok, hT⟩, hft1⟩ := hI
          have ht6 : t ≤ 6 - rl := by omega
          have htw : t * w a ≤ mw - sm := ct_mul (show t ≤ (mw - sm) / w a by omega)
          refine lv_aload_n hx hb dX5_tries_147 rfl (lv_at hl 1 rfl) ?_
          refine k_get hx hb hts i_X5 hown hw 0 27 rfl rfl (by decide) k_f52 rfl dX5_tries_148 ?_
          refine lv_iload_n hx hb dX5_tries_151 rfl (lv_at hl 3 rfl) ?_
          refine lv_iload hx hb dX5_tries_152 (lv_at hl 0 rfl) ?_
          refine k_iast (ws' := [(h0, .inr (7, [.int th, .int (nI G), .ref z1, .int (nI mw), .int mg, .int up, .int ch, .int (nI N), .ref z2, .ref z3, .ref z4, .ref z5, .int sh, .int li, .int fp, .int sp, .int (nI hc), .ref z6, .int bk, .long fr, .long pa, .long lo, .long st, .long ma, .int ph, .int tr, .int bs1, .ref z7, .ref z8])), (z2, .inl (cI, 10, .inl og)), (z3, .inl (cI, 10, .inl ow)), (z4, .inl (cI, 10, .inl ol)), (z7, .inl (cI, 10, .inl (upd ft1 a (nI t)))), (z8, .inl (cI, 10, .inl fb1))]) hx hb hw 4 0 rfl rfl a rfl (by omega) (Nat.le_of_ble_eq_true rfl) rfl dX5_tries_154 (fun H locs hw => ?_)
          refine lv_aload_n hx hb dX5_tries_155 rfl (lv_at hl 1 rfl) ?_
          refine lv_iload_n hx hb dX5_tries_156 rfl (lv_at hl 2 rfl) ?_
          refine lv_iload_n hx hb dX5_tries_157 rfl (lv_at hl 3 rfl) ?_
          refine lv_iconst (v := 1) hx hb dX5_tries_158 (by decide) ?_
          refine lv_iadd hx hb dX5_tries_159 ?_
          refine k_eqi (nI_1 a) ?_
          refine lv_iload_n hx hb dX5_tries_160 rfl (lv_at hl 4 rfl) ?_
          refine lv_iload hx hb dX5_tries_161 (lv_at hl 0 rfl) ?_
          refine lv_iadd hx hb dX5_tries_163 ?_
          refine k_eqi (y := nI (rl + t)) (nI_add _ _) ?_
          refine lv_iload hx hb dX5_tries_164 (lv_at hl 5 rfl) ?_
          refine lv_iload hx hb dX5_tries_166 (lv_at hl 0 rfl) ?_
          refine lv_aload_n hx hb dX5_tries_168 rfl (lv_at hl 1 rfl) ?_
          refine k_get hx hb hts i_X5 hown hw 0 9 rfl rfl (by decide) k_f27 rfl dX5_tries_169 ?_
          refine lv_iload_n hx hb dX5_tries_172 rfl (lv_at hl 3 rfl) ?_
          refine k_iald hx hb hw 2 0 rfl rfl a rfl (by omega) (Nat.le_of_ble_eq_true rfl) dX5_tries_173 ?_
          refine k_eqi (y := nI (w a)) (hfw a ha10) ?_
          refine lv_imul hx hb dX5_tries_174 ?_
          refine k_eqi (y := nI (t * w a)) (pk_mul t (w a)) ?_
          refine lv_iadd hx hb dX5_tries_175 ?_
          refine k_eqi (y := nI (sm + t * w a)) (nI_add _ _) ?_
          refine k_callv (wr := []) (k_runV (wc := [(h0, .inr (7, [.int th, .int (nI G), .ref z1, .int (nI mw), .int mg, .int up, .int ch, .int (nI N), .ref z2, .ref z3, .ref z4, .ref z5, .int sh, .int li, .int fp, .int sp, .int (nI hc), .ref z6, .int bk, .long fr, .long pa, .long lo, .long st, .long ma, .int ph, .int tr, .int bs1, .ref z7, .ref z8])), (z2, .inl (cI, 10, .inl og)), (z3, .inl (cI, 10, .inl ow)), (z4, .inl (cI, 10, .inl ol)), (z7, .inl (cI, 10, .inl (upd ft1 a (nI t)))), (z8, .inl (cI, 10, .inl fb1))]) (As := [.int p0, .int (nI (a + 1)), .int (nI (rl + t)), .int (nI (sm + t * w a))]) (rest := []) ⟨hx, hb, hml, hown, hts⟩ (ih h0 z2 z3 z4 z7 z8 H.size z1 z5 z6 th G mw mg up ch N sh li fp sp hc bk fr pa lo st ma ph tr bs1 og ow ol (upd ft1 a (nI t)) fb1 p0 (a + 1) (rl + t) (sm + t * w a) lk w bv1 (fun j => if j = a then t else tv j) (by omega) hN (by omega) hmw (by omega) hfw hfm hwb hlk hpos hok (sr_tv hft1 hft)) (cwV 4 hts gX5_tries_X5_tries rfl rfl rfl (by decide +kernel) ⟨by dsimp only; omega, by dsimp only; omega⟩) hw [0, 1, 2, 3, 4, 5] (by decide) rfl 0 rfl rfl rfl hl.1 rfl (Nat.le_of_ble_eq_true rfl) dX5_tries_176 ⟨Nat.zero_le _, Nat.zero_le _⟩) hw [0, 1, 2, 3, 4, 5] [] rfl rfl (by decide) (by decide) (fun u176 H locs w176 hw => ?_)
          obtain ⟨fb2_176, ft2_176, bs2_176⟩ := u176
          replace hw : kW D (kty cI cC cJ cG) s (va_A [(h0, .inr (7, [.int th, .int (nI G), .ref z1, .int (nI mw), .int mg, .int up, .int ch, .int (nI N), .ref z2, .ref z3, .ref z4, .ref z5, .int sh, .int li, .int fp, .int sp, .int (nI hc), .ref z6, .int bk, .long fr, .long pa, .long lo, .long st, .long ma, .int ph, .int tr, .int bs, .ref z7, .ref z8])), (z2, .inl (cI, 10, .inl og)), (z3, .inl (cI, 10, .inl ow)), (z4, .inl (cI, 10, .inl ol)), (z7, .inl (cI, 10, .inl ft)), (z8, .inl (cI, 10, .inl fb))] s.heap.size) [(h0, .inr (7, [.int th, .int (nI G), .ref z1, .int (nI mw), .int mg, .int up, .int ch, .int (nI N), .ref z2, .ref z3, .ref z4, .ref z5, .int sh, .int li, .int fp, .int sp, .int (nI hc), .ref z6, .int bk, .long fr, .long pa, .long lo, .long st, .long ma, .int ph, .int tr, .int bs2_176, .ref z7, .ref z8])), (z2, .inl (cI, 10, .inl og)), (z3, .inl (cI, 10, .inl ow)), (z4, .inl (cI, 10, .inl ol)), (z7, .inl (cI, 10, .inl ft2_176)), (z8, .inl (cI, 10, .inl fb2_176))] H locs := hw
          obtain ⟨⟨hb2, hfb2⟩, hft2⟩ := w176
          rw [tr_try ht6] at hb2 hfb2
          refine lv_iinc (v := (nI t) + (-1)) (lv' := [(6, .int ((nI t) + (-1))), (0, .ref h0), (1, .int p0), (2, .int (nI a)), (3, .int (nI rl)), (4, .int (nI sm))]) hx hb dX5_tries_179 hl (k := 0) rfl rfl (by decide) rfl (fun ls hl => ?_)
          refine lv_goto (tgt := 142) hx hb dX5_tries_182 (by decide) ?_
          exact ih142 (t, (nI t) + (-1), fb2_176, ft2_176, bs2_176) _ _ _ (show t ≤ min (min (m_cap og lk p0 a) (6 - rl)) ((mw - sm) / w a) + 1 ∧ ((nI t) + (-1)) = nI t - 1 ∧ (∃ bv1 : Nat → Nat, (∀ j, j < N → fb2_176 j = nI (bv1 j)) ∧ ct_L (ct_g (m_cap og lk p0) w k a (6 - rl) (mw - sm) sm tv) t (bs2_176, bv1) = ct_L (ct_g (m_cap og lk p0) w k a (6 - rl) (mw - sm) sm tv) (min (min (m_cap og lk p0 a) (6 - rl)) ((mw - sm) / w a) + 1) (bs, bv)) ∧ ∀ j, j < a → ft2_176 j = ft j from ⟨by omega, i_m1 t, ⟨_, hfb2, by rw [hb2, ← hT, ct_L]⟩, fun j hj => by rw [hft2 j (by omega), pk_un (by omega)]; exact hft1 j hj⟩) (show t < (t + 1) from by omega) hw (lv_sub hl [0, 1, 2, 3, 4, 5] rfl)
    · refine lv_iload hx hb dX5_tries_87 (lv_at hl 0 rfl) ?_
      refine k_eqi (y := nI (min (m_cap og lk p0 a) (6 - rl))) (m_min_f (by omega) (by omega) c84) ?_
      refine lv_goto (tgt := 96) hx hb dX5_tries_89 (by decide) ?_
      refine lv_istore (lv' := [(5, .int (nI (min (m_cap og lk p0 a) (6 - rl)))), (0, .ref h0), (1, .int p0), (2, .int (nI a)), (3, .int (nI rl)), (4, .int (nI sm))]) hx hb dX5_tries_96 hl (by decide) rfl (fun ls hl => ?_)
      refine lv_iload hx hb dX5_tries_98 (lv_at hl 0 rfl) ?_
      refine lv_aload_n hx hb dX5_tries_100 rfl (lv_at hl 1 rfl) ?_
      refine k_get hx hb hts i_X5 hown hw 0 3 rfl rfl (by decide) k_f13 rfl dX5_tries_101 ?_
      refine lv_iload hx hb dX5_tries_104 (lv_at hl 5 rfl) ?_
      refine lv_isub hx hb dX5_tries_106 ?_
      refine k_eqi (y := nI (mw - sm)) (pk_sub hsm) ?_
      refine lv_aload_n hx hb dX5_tries_107 rfl (lv_at hl 1 rfl) ?_
      refine k_get hx hb hts i_X5 hown hw 0 9 rfl rfl (by decide) k_f27 rfl dX5_tries_108 ?_
      refine lv_iload_n hx hb dX5_tries_111 rfl (lv_at hl 3 rfl) ?_
      refine k_iald hx hb hw 2 0 rfl rfl a rfl (by omega) (Nat.le_of_ble_eq_true rfl) dX5_tries_112 ?_
      refine k_eqi (y := nI (w a)) (hfw a ha10) ?_
      refine lv_idiv hx hb dX5_tries_113 (nI_ne0 hwp (by omega)) ?_
      refine k_eqi (y := nI ((mw - sm) / w a)) (pk_div (by omega) hwp (by omega)) ?_
      refine lv_icmp_ge (tgt := 122) hx hb dX5_tries_114 (by decide) (fun c114 => ?_) (fun c114 => ?_)
      · refine lv_aload_n hx hb dX5_tries_122 rfl (lv_at hl 1 rfl) ?_
        refine k_get hx hb hts i_X5 hown hw 0 3 rfl rfl (by decide) k_f13 rfl dX5_tries_123 ?_
        refine lv_iload hx hb dX5_tries_126 (lv_at hl 5 rfl) ?_
        refine lv_isub hx hb dX5_tries_128 ?_
        refine k_eqi (y := nI (mw - sm)) (pk_sub hsm) ?_
        refine lv_aload_n hx hb dX5_tries_129 rfl (lv_at hl 1 rfl) ?_
        refine k_get hx hb hts i_X5 hown hw 0 9 rfl rfl (by decide) k_f27 rfl dX5_tries_130 ?_
        refine lv_iload_n hx hb dX5_tries_133 rfl (lv_at hl 3 rfl) ?_
        refine k_iald hx hb hw 2 0 rfl rfl a rfl (by omega) (Nat.le_of_ble_eq_true rfl) dX5_tries_134 ?_
        refine k_eqi (y := nI (w a)) (hfw a ha10) ?_
        refine lv_idiv hx hb dX5_tries_135 (nI_ne0 hwp (by omega)) ?_
        refine k_eqi (y := nI (min (min (m_cap og lk p0 a) (6 - rl)) ((mw - sm) / w a))) ((pk_div (by omega) hwp (by omega)).trans (m_min_t (by omega) (by omega) c114)) ?_
        refine lv_istore (lv' := [(5, .int (nI (min (min (m_cap og lk p0 a) (6 - rl)) ((mw - sm) / w a)))), (0, .ref h0), (1, .int p0), (2, .int (nI a)), (3, .int (nI rl)), (4, .int (nI sm))]) hx hb dX5_tries_136 hl (by decide) rfl (fun ls hl => ?_)
        refine lv_iload hx hb dX5_tries_138 (lv_at hl 0 rfl) ?_
        refine lv_istore (lv' := [(6, .int (nI (min (min (m_cap og lk p0 a) (6 - rl)) ((mw - sm) / w a)))), (5, .int (nI (min (min (m_cap og lk p0 a) (6 - rl)) ((mw - sm) / w a)))), (0, .ref h0), (1, .int p0), (2, .int (nI a)), (3, .int (nI rl)), (4, .int (nI sm))]) hx hb dX5_tries_140 hl (by decide) rfl (fun ls hl => ?_)
        replace hl : lv_has _ 7 [(6, .int (nI (min (min (m_cap og lk p0 a) (6 - rl)) ((mw - sm) / w a)))), (0, .ref h0), (1, .int p0), (2, .int (nI a)), (3, .int (nI rl)), (4, .int (nI sm))] := lv_sub hl [0, 2, 3, 4, 5, 6] rfl
        replace hw : kW D (kty cI cC cJ cG) s (va_A [(h0, .inr (7, [.int th, .int (nI G), .ref z1, .int (nI mw), .int mg, .int up, .int ch, .int (nI N), .ref z2, .ref z3, .ref z4, .ref z5, .int sh, .int li, .int fp, .int sp, .int (nI hc), .ref z6, .int bk, .long fr, .long pa, .long lo, .long st, .long ma, .int ph, .int tr, .int bs, .ref z7, .ref z8])), (z2, .inl (cI, 10, .inl og)), (z3, .inl (cI, 10, .inl ow)), (z4, .inl (cI, 10, .inl ol)), (z7, .inl (cI, 10, .inl ft)), (z8, .inl (cI, 10, .inl fb))] s.heap.size) [(h0, .inr (7, [.int th, .int (nI G), .ref z1, .int (nI mw), .int mg, .int up, .int ch, .int (nI N), .ref z2, .ref z3, .ref z4, .ref z5, .int sh, .int li, .int fp, .int sp, .int (nI hc), .ref z6, .int bk, .long fr, .long pa, .long lo, .long st, .long ma, .int ph, .int tr, .int bs, .ref z7, .ref z8])), (z2, .inl (cI, 10, .inl og)), (z3, .inl (cI, 10, .inl ow)), (z4, .inl (cI, 10, .inl ol)), (z7, .inl (cI, 10, .inl ft)), (z8, .inl (cI, 10, .inl fb))] H locs := hw
        revert hl; revert hw; revert ls; revert locs; revert H
        refine k_loop (fun ((q, x, fb1, ft1, bs1) : (Nat) × (Int32) × (Nat → Int32) × (Nat → Int32) × (Int32)) => q ≤ min (min (m_cap og lk p0 a) (6 - rl)) ((mw - sm) / w a) + 1 ∧ x = nI q - 1 ∧ (∃ bv1 : Nat → Nat, (∀ j, j < N → fb1 j = nI (bv1 j)) ∧ ct_L (ct_g (m_cap og lk p0) w k a (6 - rl) (mw - sm) sm tv) q (bs1, bv1) = ct_L (ct_g (m_cap og lk p0) w k a (6 - rl) (mw - sm) sm tv) (min (min (m_cap og lk p0 a) (6 - rl)) ((mw - sm) / w a) + 1) (bs, bv)) ∧ ∀ j, j < a → ft1 j = ft j) (fun ((q, x, fb1, ft1, bs1) : (Nat) × (Int32) × (Nat → Int32) × (Nat → Int32) × (Int32)) => q) (fun ((q, x, fb1, ft1, bs1) : (Nat) × (Int32) × (Nat → Int32) × (Nat → Int32) × (Int32)) => [(h0, .inr (7, [.int th, .int (nI G), .ref z1, .int (nI mw), .int mg, .int up, .int ch, .int (nI N), .ref z2, .ref z3, .ref z4, .ref z5, .int sh, .int li, .int fp, .int sp, .int (nI hc), .ref z6, .int bk, .long fr, .long pa, .long lo, .long st, .long ma, .int ph, .int tr, .int bs1, .ref z7, .ref z8])), (z2, .inl (cI, 10, .inl og)), (z3, .inl (cI, 10, .inl ow)), (z4, .inl (cI, 10, .inl ol)), (z7, .inl (cI, 10, .inl ft1)), (z8, .inl (cI, 10, .inl fb1))]) (fun ((q, x, fb1, ft1, bs1) : (Nat) × (Int32) × (Nat → Int32) × (Nat → Int32) × (Int32)) => [(6, .int x), (0, .ref h0), (1, .int p0), (2, .int (nI a)), (3, .int (nI rl)), (4, .int (nI sm))]) (min (min (m_cap og lk p0 a) (6 - rl)) ((mw - sm) / w a) + 1, nI (min (min (m_cap og lk p0 a) (6 - rl)) ((mw - sm) / w a)), fb, ft, bs) (show (min (min (m_cap og lk p0 a) (6 - rl)) ((mw - sm) / w a) + 1) ≤ min (min (m_cap og lk p0 a) (6 - rl)) ((mw - sm) / w a) + 1 ∧ (nI (min (min (m_cap og lk p0 a) (6 - rl)) ((mw - sm) / w a))) = nI (min (min (m_cap og lk p0 a) (6 - rl)) ((mw - sm) / w a) + 1) - 1 ∧ (∃ bv1 : Nat → Nat, (∀ j, j < N → fb j = nI (bv1 j)) ∧ ct_L (ct_g (m_cap og lk p0) w k a (6 - rl) (mw - sm) sm tv) (min (min (m_cap og lk p0 a) (6 - rl)) ((mw - sm) / w a) + 1) (bs, bv1) = ct_L (ct_g (m_cap og lk p0) w k a (6 - rl) (mw - sm) sm tv) (min (min (m_cap og lk p0 a) (6 - rl)) ((mw - sm) / w a) + 1) (bs, bv)) ∧ ∀ j, j < a → ft j = ft j from ⟨Nat.le_refl _, (nI_pred _).symm, ⟨bv, hfb, rfl⟩, fun _ _ => rfl⟩) ?_
        intro ⟨q, x, fb1, ft1, bs1⟩ hI ih142 H locs ls hw hl
        replace hI : q ≤ min (min (m_cap og lk p0 a) (6 - rl)) ((mw - sm) / w a) + 1 ∧ x = nI q - 1 ∧ (∃ bv1 : Nat → Nat, (∀ j, j < N → fb1 j = nI (bv1 j)) ∧ ct_L (ct_g (m_cap og lk p0) w k a (6 - rl) (mw - sm) sm tv) q (bs1, bv1) = ct_L (ct_g (m_cap og lk p0) w k a (6 - rl) (mw - sm) sm tv) (min (min (m_cap og lk p0 a) (6 - rl)) ((mw - sm) / w a) + 1) (bs, bv)) ∧ ∀ j, j < a → ft1 j = ft j := hI
        replace hw : kW D (kty cI cC cJ cG) s (va_A [(h0, .inr (7, [.int th, .int (nI G), .ref z1, .int (nI mw), .int mg, .int up, .int ch, .int (nI N), .ref z2, .ref z3, .ref z4, .ref z5, .int sh, .int li, .int fp, .int sp, .int (nI hc), .ref z6, .int bk, .long fr, .long pa, .long lo, .long st, .long ma, .int ph, .int tr, .int bs, .ref z7, .ref z8])), (z2, .inl (cI, 10, .inl og)), (z3, .inl (cI, 10, .inl ow)), (z4, .inl (cI, 10, .inl ol)), (z7, .inl (cI, 10, .inl ft)), (z8, .inl (cI, 10, .inl fb))] s.heap.size) [(h0, .inr (7, [.int th, .int (nI G), .ref z1, .int (nI mw), .int mg, .int up, .int ch, .int (nI N), .ref z2, .ref z3, .ref z4, .ref z5, .int sh, .int li, .int fp, .int sp, .int (nI hc), .ref z6, .int bk, .long fr, .long pa, .long lo, .long st, .long ma, .int ph, .int tr, .int bs1, .ref z7, .ref z8])), (z2, .inl (cI, 10, .inl og)), (z3, .inl (cI, 10, .inl ow)), (z4, .inl (cI, 10, .inl ol)), (z7, .inl (cI, 10, .inl ft1)), (z8, .inl (cI, 10, .inl fb1))] H locs := hw
        replace hl : lv_has ls 7 [(6, .int x), (0, .ref h0), (1, .int p0), (2, .int (nI a)), (3, .int (nI rl)), (4, .int (nI sm))] := hl
        refine lv_iload hx hb dX5_tries_142 (lv_at hl 0 rfl) ?_
        refine lv_if_lt (tgt := 185) hx hb dX5_tries_144 (by decide) (fun c144 => ?_) (fun c144 => ?_)
        · have hq0 : q = 0 := by rcases Nat.eq_zero_or_pos q with z | z; exact z; (obtain ⟨t, rfl⟩ : ∃ t, q = t + 1 := ⟨q - 1, by omega⟩); (rw [hI.2.1, nI_pred] at c144); exact absurd c144 (Int32.not_lt.mpr (nI_pos' (by omega)))
          obtain ⟨-, -, ⟨bv1, hok, hT⟩, hft1⟩ := hI
          rw [hq0, ct_L, ct_g_node (m_cap og lk p0) w k a (6 - rl) (mw - sm) sm tv (by omega) (bs, bv) _ rfl] at hT
          exact k_vret (fb1, ft1, bs1) hx hb hr hlocks hw ⟨by rw [← hT]; exact ⟨rfl, hok⟩, hft1⟩ dX5_tries_185
        · obtain ⟨t, rfl⟩ : ∃ t, q = t + 1 := ⟨q - 1, by rcases Nat.eq_zero_or_pos q with z | z; (subst z; exact absurd (by rw [hI.2.1]; decide) c144); omega⟩
          obtain rfl : x = nI t := by rw [hI.2.1]; exact nI_pred t
          obtain ⟨hq, -, ⟨bv1, hok, hT⟩, hft1⟩ := hI
          have ht6 : t ≤ 6 - rl := by omega
          have htw : t * w a ≤ mw - sm := ct_mul (show t ≤ (mw - sm) / w a by omega)
          refine lv_aload_n hx hb dX5_tries_147 rfl (lv_at hl 1 rfl) ?_
          refine k_get hx hb hts i_X5 hown hw 0 27 rfl rfl (by decide) k_f52 rfl dX5_tries_148 ?_
          refine lv_iload_n hx hb dX5_tries_151 rfl (lv_at hl 3 rfl) ?_
          refine lv_iload hx hb dX5_tries_152 (lv_at hl 0 rfl) ?_
          refine k_iast (ws' := [(h0, .inr (7, [.int th, .int (nI G), .ref z1, .int (nI mw), .int mg, .int up, .int ch, .int (nI N), .ref z2, .ref z3, .ref z4, .ref z5, .int sh, .int li, .int fp, .int sp, .int (nI hc), .ref z6, .int bk, .long fr, .long pa, .long lo, .long st, .long ma, .int ph, .int tr, .int bs1, .ref z7, .ref z8])), (z2, .inl (cI, 10, .inl og)), (z3, .inl (cI, 10, .inl ow)), (z4, .inl (cI, 10, .inl ol)), (z7, .inl (cI, 10, .inl (upd ft1 a (nI t)))), (z8, .inl (cI, 10, .inl fb1))]) hx hb hw 4 0 rfl rfl a rfl (by omega) (Nat.le_of_ble_eq_true rfl) rfl dX5_tries_154 (fun H locs hw => ?_)
          refine lv_aload_n hx hb dX5_tries_155 rfl (lv_at hl 1 rfl) ?_
          refine lv_iload_n hx hb dX5_tries_156 rfl (lv_at hl 2 rfl) ?_
          refine lv_iload_n hx hb dX5_tries_157 rfl (lv_at hl 3 rfl) ?_
          refine lv_iconst (v := 1) hx hb dX5_tries_158 (by decide) ?_
          refine lv_iadd hx hb dX5_tries_159 ?_
          refine k_eqi (nI_1 a) ?_
          refine lv_iload_n hx hb dX5_tries_160 rfl (lv_at hl 4 rfl) ?_
          refine lv_iload hx hb dX5_tries_161 (lv_at hl 0 rfl) ?_
          refine lv_iadd hx hb dX5_tries_163 ?_
          refine k_eqi (y := nI (rl + t)) (nI_add _ _) ?_
          refine lv_iload hx hb dX5_tries_164 (lv_at hl 5 rfl) ?_
          refine lv_iload hx hb dX5_tries_166 (lv_at hl 0 rfl) ?_
          refine lv_aload_n hx hb dX5_tries_168 rfl (lv_at hl 1 rfl) ?_
          refine k_get hx hb hts i_X5 hown hw 0 9 rfl rfl (by decide) k_f27 rfl dX5_tries_169 ?_
          refine lv_iload_n hx hb dX5_tries_172 rfl (lv_at hl 3 rfl) ?_
          refine k_iald hx hb hw 2 0 rfl rfl a rfl (by omega) (Nat.le_of_ble_eq_true rfl) dX5_tries_173 ?_
          refine k_eqi (y := nI (w a)) (hfw a ha10) ?_
          refine lv_imul hx hb dX5_tries_174 ?_
          refine k_eqi (y := nI (t * w a)) (pk_mul t (w a)) ?_
          refine lv_iadd hx hb dX5_tries_175 ?_
          refine k_eqi (y := nI (sm + t * w a)) (nI_add _ _) ?_
          refine k_callv (wr := []) (k_runV (wc := [(h0, .inr (7, [.int th, .int (nI G), .ref z1, .int (nI mw), .int mg, .int up, .int ch, .int (nI N), .ref z2, .ref z3, .ref z4, .ref z5, .int sh, .int li, .int fp, .int sp, .int (nI hc), .ref z6, .int bk, .long fr, .long pa, .long lo, .long st, .long ma, .int ph, .int tr, .int bs1, .ref z7, .ref z8])), (z2, .inl (cI, 10, .inl og)), (z3, .inl (cI, 10, .inl ow)), (z4, .inl (cI, 10, .inl ol)), (z7, .inl (cI, 10, .inl (upd ft1 a (nI t)))), (z8, .inl (cI, 10, .inl fb1))]) (As := [.int p0, .int (nI (a + 1)), .int (nI (rl + t)), .int (nI (sm + t * w a))]) (rest := []) ⟨hx, hb, hml, hown, hts⟩ (ih h0 z2 z3 z4 z7 z8 H.size z1 z5 z6 th G mw mg up ch N sh li fp sp hc bk fr pa lo st ma ph tr bs1 og ow ol (upd ft1 a (nI t)) fb1 p0 (a + 1) (rl + t) (sm + t * w a) lk w bv1 (fun j => if j = a then t else tv j) (by omega) hN (by omega) hmw (by omega) hfw hfm hwb hlk hpos hok (sr_tv hft1 hft)) (cwV 4 hts gX5_tries_X5_tries rfl rfl rfl (by decide +kernel) ⟨by dsimp only; omega, by dsimp only; omega⟩) hw [0, 1, 2, 3, 4, 5] (by decide) rfl 0 rfl rfl rfl hl.1 rfl (Nat.le_of_ble_eq_true rfl) dX5_tries_176 ⟨Nat.zero_le _, Nat.zero_le _⟩) hw [0, 1, 2, 3, 4, 5] [] rfl rfl (by decide) (by decide) (fun u176 H locs w176 hw => ?_)
          obtain ⟨fb2_176, ft2_176, bs2_176⟩ := u176
          replace hw : kW D (kty cI cC cJ cG) s (va_A [(h0, .inr (7, [.int th, .int (nI G), .ref z1, .int (nI mw), .int mg, .int up, .int ch, .int (nI N), .ref z2, .ref z3, .ref z4, .ref z5, .int sh, .int li, .int fp, .int sp, .int (nI hc), .ref z6, .int bk, .long fr, .long pa, .long lo, .long st, .long ma, .int ph, .int tr, .int bs, .ref z7, .ref z8])), (z2, .inl (cI, 10, .inl og)), (z3, .inl (cI, 10, .inl ow)), (z4, .inl (cI, 10, .inl ol)), (z7, .inl (cI, 10, .inl ft)), (z8, .inl (cI, 10, .inl fb))] s.heap.size) [(h0, .inr (7, [.int th, .int (nI G), .ref z1, .int (nI mw), .int mg, .int up, .int ch, .int (nI N), .ref z2, .ref z3, .ref z4, .ref z5, .int sh, .int li, .int fp, .int sp, .int (nI hc), .ref z6, .int bk, .long fr, .long pa, .long lo, .long st, .long ma, .int ph, .int tr, .int bs2_176, .ref z7, .ref z8])), (z2, .inl (cI, 10, .inl og)), (z3, .inl (cI, 10, .inl ow)), (z4, .inl (cI, 10, .inl ol)), (z7, .inl (cI, 10, .inl ft2_176)), (z8, .inl (cI, 10, .inl fb2_176))] H locs := hw
          obtain ⟨⟨hb2, hfb2⟩, hft2⟩ := w176
          rw [tr_try ht6] at hb2 hfb2
          refine lv_iinc (v := (nI t) + (-1)) (lv' := [(6, .int ((nI t) + (-1))), (0, .ref h0), (1, .int p0), (2, .int (nI a)), (3, .int (nI rl)), (4, .int (nI sm))]) hx hb dX5_tries_179 hl (k := 0) rfl rfl (by decide) rfl (fun ls hl => ?_)
          refine lv_goto (tgt := 142) hx hb dX5_tries_182 (by decide) ?_
          exact ih142 (t, (nI t) + (-1), fb2_176, ft2_176, bs2_176) _ _ _ (show t ≤ min (min (m_cap og lk p0 a) (6 - rl)) ((mw - sm) / w a) + 1 ∧ ((nI t) + (-1)) = nI t - 1 ∧ (∃ bv1 : Nat → Nat, (∀ j, j < N → fb2_176 j = nI (bv1 j)) ∧ ct_L (ct_g (m_cap og lk p0) w k a (6 - rl) (mw - sm) sm tv) t (bs2_176, bv1) = ct_L (ct_g (m_cap og lk p0) w k a (6 - rl) (mw - sm) sm tv) (min (min (m_cap og lk p0 a) (6 - rl)) ((mw - sm) / w a) + 1) (bs, bv)) ∧ ∀ j, j < a → ft2_176 j = ft j from ⟨by omega, i_m1 t, ⟨_, hfb2, by rw [hb2, ← hT, ct_L]⟩, fun j hj => by rw [hft2 j (by omega), pk_un (by omega)]; exact hft1 j hj⟩) (show t < (t + 1) from by omega) hw (lv_sub hl [0, 1, 2, 3, 4, 5] rfl)
      · refine lv_iload hx hb dX5_tries_117 (lv_at hl 0 rfl) ?_
        refine k_eqi (y := nI (min (min (m_cap og lk p0 a) (6 - rl)) ((mw - sm) / w a))) (m_min_f (by omega) (by omega) c114) ?_
        refine lv_goto (tgt := 136) hx hb dX5_tries_119 (by decide) ?_
        refine lv_istore (lv' := [(5, .int (nI (min (min (m_cap og lk p0 a) (6 - rl)) ((mw - sm) / w a)))), (0, .ref h0), (1, .int p0), (2, .int (nI a)), (3, .int (nI rl)), (4, .int (nI sm))]) hx hb dX5_tries_136 hl (by decide) rfl (fun ls hl => ?_)
        refine lv_iload hx hb dX5_tries_138 (lv_at hl 0 rfl) ?_
        refine lv_istore (lv' := [(6, .int (nI (min (min (m_cap og lk p0 a) (6 - rl)) ((mw - sm) / w a)))), (5, .int (nI (min (min (m_cap og lk p0 a) (6 - rl)) ((mw - sm) / w a)))), (0, .ref h0), (1, .int p0), (2, .int (nI a)), (3, .int (nI rl)), (4, .int (nI sm))]) hx hb dX5_tries_140 hl (by decide) rfl (fun ls hl => ?_)
        replace hl : lv_has _ 7 [(6, .int (nI (min (min (m_cap og lk p0 a) (6 - rl)) ((mw - sm) / w a)))), (0, .ref h0), (1, .int p0), (2, .int (nI a)), (3, .int (nI rl)), (4, .int (nI sm))] := lv_sub hl [0, 2, 3, 4, 5, 6] rfl
        replace hw : kW D (kty cI cC cJ cG) s (va_A [(h0, .inr (7, [.int th, .int (nI G), .ref z1, .int (nI mw), .int mg, .int up, .int ch, .int (nI N), .ref z2, .ref z3, .ref z4, .ref z5, .int sh, .int li, .int fp, .int sp, .int (nI hc), .ref z6, .int bk, .long fr, .long pa, .long lo, .long st, .long ma, .int ph, .int tr, .int bs, .ref z7, .ref z8])), (z2, .inl (cI, 10, .inl og)), (z3, .inl (cI, 10, .inl ow)), (z4, .inl (cI, 10, .inl ol)), (z7, .inl (cI, 10, .inl ft)), (z8, .inl (cI, 10, .inl fb))] s.heap.size) [(h0, .inr (7, [.int th, .int (nI G), .ref z1, .int (nI mw), .int mg, .int up, .int ch, .int (nI N), .ref z2, .ref z3, .ref z4, .ref z5, .int sh, .int li, .int fp, .int sp, .int (nI hc), .ref z6, .int bk, .long fr, .long pa, .long lo, .long st, .long ma, .int ph, .int tr, .int bs, .ref z7, .ref z8])), (z2, .inl (cI, 10, .inl og)), (z3, .inl (cI, 10, .inl ow)), (z4, .inl (cI, 10, .inl ol)), (z7, .inl (cI, 10, .inl ft)), (z8, .inl (cI, 10, .inl fb))] H locs := hw
        revert hl; revert hw; revert ls; revert locs; revert H
        refine k_loop (fun ((q, x, fb1, ft1, bs1) : (Nat) × (Int32) × (Nat → Int32) × (Nat → Int32) × (Int32)) => q ≤ min (min (m_cap og lk p0 a) (6 - rl)) ((mw - sm) / w a) + 1 ∧ x = nI q - 1 ∧ (∃ bv1 : Nat → Nat, (∀ j, j < N → fb1 j = nI (bv1 j)) ∧ ct_L (ct_g (m_cap og lk p0) w k a (6 - rl) (mw - sm) sm tv) q (bs1, bv1) = ct_L (ct_g (m_cap og lk p0) w k a (6 - rl) (mw - sm) sm tv) (min (min (m_cap og lk p0 a) (6 - rl)) ((mw - sm) / w a) + 1) (bs, bv)) ∧ ∀ j, j < a → ft1 j = ft j) (fun ((q, x, fb1, ft1, bs1) : (Nat) × (Int32) × (Nat → Int32) × (Nat → Int32) × (Int32)) => q) (fun ((q, x, fb1, ft1, bs1) : (Nat) × (Int32) × (Nat → Int32) × (Nat → Int32) × (Int32)) => [(h0, .inr (7, [.int th, .int (nI G), .ref z1, .int (nI mw), .int mg, .int up, .int ch, .int (nI N), .ref z2, .ref z3, .ref z4, .ref z5, .int sh, .int li, .int fp, .int sp, .int (nI hc), .ref z6, .int bk, .long fr, .long pa, .long lo, .long st, .long ma, .int ph, .int tr, .int bs1, .ref z7, .ref z8])), (z2, .inl (cI, 10, .inl og)), (z3, .inl (cI, 10, .inl ow)), (z4, .inl (cI, 10, .inl ol)), (z7, .inl (cI, 10, .inl ft1)), (z8, .inl (cI, 10, .inl fb1))]) (fun ((q, x, fb1, ft1, bs1) : (Nat) × (Int32) × (Nat → Int32) × (Nat → Int32) × (Int32)) => [(6, .int x), (0, .ref h0), (1, .int p0), (2, .int (nI a)), (3, .int (nI rl)), (4, .int (nI sm))]) (min (min (m_cap og lk p0 a) (6 - rl)) ((mw - sm) / w a) + 1, nI (min (min (m_cap og lk p0 a) (6 - rl)) ((mw - sm) / w a)), fb, ft, bs) (show (min (min (m_cap og lk p0 a) (6 - rl)) ((mw - sm) / w a) + 1) ≤ min (min (m_cap og lk p0 a) (6 - rl)) ((mw - sm) / w a) + 1 ∧ (nI (min (min (m_cap og lk p0 a) (6 - rl)) ((mw - sm) / w a))) = nI (min (min (m_cap og lk p0 a) (6 - rl)) ((mw - sm) / w a) + 1) - 1 ∧ (∃ bv1 : Nat → Nat, (∀ j, j < N → fb j = nI (bv1 j)) ∧ ct_L (ct_g (m_cap og lk p0) w k a (6 - rl) (mw - sm) sm tv) (min (min (m_cap og lk p0 a) (6 - rl)) ((mw - sm) / w a) + 1) (bs, bv1) = ct_L (ct_g (m_cap og lk p0) w k a (6 - rl) (mw - sm) sm tv) (min (min (m_cap og lk p0 a) (6 - rl)) ((mw - sm) / w a) + 1) (bs, bv)) ∧ ∀ j, j < a → ft j = ft j from ⟨Nat.le_refl _, (nI_pred _).symm, ⟨bv, hfb, rfl⟩, fun _ _ => rfl⟩) ?_
        intro ⟨q, x, fb1, ft1, bs1⟩ hI ih142 H locs ls hw hl
        replace hI : q ≤ min (min (m_cap og lk p0 a) (6 - rl)) ((mw - sm) / w a) + 1 ∧ x = nI q - 1 ∧ (∃ bv1 : Nat → Nat, (∀ j, j < N → fb1 j = nI (bv1 j)) ∧ ct_L (ct_g (m_cap og lk p0) w k a (6 - rl) (mw - sm) sm tv) q (bs1, bv1) = ct_L (ct_g (m_cap og lk p0) w k a (6 - rl) (mw - sm) sm tv) (min (min (m_cap og lk p0 a) (6 - rl)) ((mw - sm) / w a) + 1) (bs, bv)) ∧ ∀ j, j < a → ft1 j = ft j := hI
        replace hw : kW D (kty cI cC cJ cG) s (va_A [(h0, .inr (7, [.int th, .int (nI G), .ref z1, .int (nI mw), .int mg, .int up, .int ch, .int (nI N), .ref z2, .ref z3, .ref z4, .ref z5, .int sh, .int li, .int fp, .int sp, .int (nI hc), .ref z6, .int bk, .long fr, .long pa, .long lo, .long st, .long ma, .int ph, .int tr, .int bs, .ref z7, .ref z8])), (z2, .inl (cI, 10, .inl og)), (z3, .inl (cI, 10, .inl ow)), (z4, .inl (cI, 10, .inl ol)), (z7, .inl (cI, 10, .inl ft)), (z8, .inl (cI, 10, .inl fb))] s.heap.size) [(h0, .inr (7, [.int th, .int (nI G), .ref z1, .int (nI mw), .int mg, .int up, .int ch, .int (nI N), .ref z2, .ref z3, .ref z4, .ref z5, .int sh, .int li, .int fp, .int sp, .int (nI hc), .ref z6, .int bk, .long fr, .long pa, .long lo, .long st, .long ma, .int ph, .int tr, .int bs1, .ref z7, .ref z8])), (z2, .inl (cI, 10, .inl og)), (z3, .inl (cI, 10, .inl ow)), (z4, .inl (cI, 10, .inl ol)), (z7, .inl (cI, 10, .inl ft1)), (z8, .inl (cI, 10, .inl fb1))] H locs := hw
        replace hl : lv_has ls 7 [(6, .int x), (0, .ref h0), (1, .int p0), (2, .int (nI a)), (3, .int (nI rl)), (4, .int (nI sm))] := hl
        refine lv_iload hx hb dX5_tries_142 (lv_at hl 0 rfl) ?_
        refine lv_if_lt (tgt := 185) hx hb dX5_tries_144 (by decide) (fun c144 => ?_) (fun c144 => ?_)
        · have hq0 : q = 0 := by rcases Nat.eq_zero_or_pos q with z | z; exact z; (obtain ⟨t, rfl⟩ : ∃ t, q = t + 1 := ⟨q - 1, by omega⟩); (rw [hI.2.1, nI_pred] at c144); exact absurd c144 (Int32.not_lt.mpr (nI_pos' (by omega)))
          obtain ⟨-, -, ⟨bv1, hok, hT⟩, hft1⟩ := hI
          rw [hq0, ct_L, ct_g_node (m_cap og lk p0) w k a (6 - rl) (mw - sm) sm tv (by omega) (bs, bv) _ rfl] at hT
          exact k_vret (fb1, ft1, bs1) hx hb hr hlocks hw ⟨by rw [← hT]; exact ⟨rfl, hok⟩, hft1⟩ dX5_tries_185
        · obtain ⟨t, rfl⟩ : ∃ t, q = t + 1 := ⟨q - 1, by rcases Nat.eq_zero_or_pos q with z | z; (subst z; exact absurd (by rw [hI.2.1]; decide) c144); omega⟩
          obtain rfl : x = nI t := by rw [hI.2.1]; exact nI_pred t
          obtain ⟨hq, -, ⟨bv1, hok, hT⟩, hft1⟩ := hI
          have ht6 : t ≤ 6 - rl := by omega
          have htw : t * w a ≤ mw - sm := ct_mul (show t ≤ (mw - sm) / w a by omega)
          refine lv_aload_n hx hb dX5_tries_147 rfl (lv_at hl 1 rfl) ?_
          refine k_get hx hb hts i_X5 hown hw 0 27 rfl rfl (by decide) k_f52 rfl dX5_tries_148 ?_
          refine lv_iload_n hx hb dX5_tries_151 rfl (lv_at hl 3 rfl) ?_
          refine lv_iload hx hb dX5_tries_152 (lv_at hl 0 rfl) ?_
          refine k_iast (ws' := [(h0, .inr (7, [.int th, .int (nI G), .ref z1, .int (nI mw), .int mg, .int up, .int ch, .int (nI N), .ref z2, .ref z3, .ref z4, .ref z5, .int sh, .int li, .int fp, .int sp, .int (nI hc), .ref z6, .int bk, .long fr, .long pa, .long lo, .long st, .long ma, .int ph, .int tr, .int bs1, .ref z7, .ref z8])), (z2, .inl (cI, 10, .inl og)), (z3, .inl (cI, 10, .inl ow)), (z4, .inl (cI, 10, .inl ol)), (z7, .inl (cI, 10, .inl (upd ft1 a (nI t)))), (z8, .inl (cI, 10, .inl fb1))]) hx hb hw 4 0 rfl rfl a rfl (by omega) (Nat.le_of_ble_eq_true rfl) rfl dX5_tries_154 (fun H locs hw => ?_)
          refine lv_aload_n hx hb dX5_tries_155 rfl (lv_at hl 1 rfl) ?_
          refine lv_iload_n hx hb dX5_tries_156 rfl (lv_at hl 2 rfl) ?_
          refine lv_iload_n hx hb dX5_tries_157 rfl (lv_at hl 3 rfl) ?_
          refine lv_iconst (v := 1) hx hb dX5_tries_158 (by decide) ?_
          refine lv_iadd hx hb dX5_tries_159 ?_
          refine k_eqi (nI_1 a) ?_
          refine lv_iload_n hx hb dX5_tries_160 rfl (lv_at hl 4 rfl) ?_
          refine lv_iload hx hb dX5_tries_161 (lv_at hl 0 rfl) ?_
          refine lv_iadd hx hb dX5_tries_163 ?_
          refine k_eqi (y := nI (rl + t)) (nI_add _ _) ?_
          refine lv_iload hx hb dX5_tries_164 (lv_at hl 5 rfl) ?_
          refine lv_iload hx hb dX5_tries_166 (lv_at hl 0 rfl) ?_
          refine lv_aload_n hx hb dX5_tries_168 rfl (lv_at hl 1 rfl) ?_
          refine k_get hx hb hts i_X5 hown hw 0 9 rfl rfl (by decide) k_f27 rfl dX5_tries_169 ?_
          refine lv_iload_n hx hb dX5_tries_172 rfl (lv_at hl 3 rfl) ?_
          refine k_iald hx hb hw 2 0 rfl rfl a rfl (by omega) (Nat.le_of_ble_eq_true rfl) dX5_tries_173 ?_
          refine k_eqi (y := nI (w a)) (hfw a ha10) ?_
          refine lv_imul hx hb dX5_tries_174 ?_
          refine k_eqi (y := nI (t * w a)) (pk_mul t (w a)) ?_
          refine lv_iadd hx hb dX5_tries_175 ?_
          refine k_eqi (y := nI (sm + t * w a)) (nI_add _ _) ?_
          refine k_callv (wr := []) (k_runV (wc := [(h0, .inr (7, [.int th, .int (nI G), .ref z1, .int (nI mw), .int mg, .int up, .int ch, .int (nI N), .ref z2, .ref z3, .ref z4, .ref z5, .int sh, .int li, .int fp, .int sp, .int (nI hc), .ref z6, .int bk, .long fr, .long pa, .long lo, .long st, .long ma, .int ph, .int tr, .int bs1, .ref z7, .ref z8])), (z2, .inl (cI, 10, .inl og)), (z3, .inl (cI, 10, .inl ow)), (z4, .inl (cI, 10, .inl ol)), (z7, .inl (cI, 10, .inl (upd ft1 a (nI t)))), (z8, .inl (cI, 10, .inl fb1))]) (As := [.int p0, .int (nI (a + 1)), .int (nI (rl + t)), .int (nI (sm + t * w a))]) (rest := []) ⟨hx, hb, hml, hown, hts⟩ (ih h0 z2 z3 z4 z7 z8 H.size z1 z5 z6 th G mw mg up ch N sh li fp sp hc bk fr pa lo st ma ph tr bs1 og ow ol (upd ft1 a (nI t)) fb1 p0 (a + 1) (rl + t) (sm + t * w a) lk w bv1 (fun j => if j = a then t else tv j) (by omega) hN (by omega) hmw (by omega) hfw hfm hwb hlk hpos hok (sr_tv hft1 hft)) (cwV 4 hts gX5_tries_X5_tries rfl rfl rfl (by decide +kernel) ⟨by dsimp only; omega, by dsimp only; omega⟩) hw [0, 1, 2, 3, 4, 5] (by decide) rfl 0 rfl rfl rfl hl.1 rfl (Nat.le_of_ble_eq_true rfl) dX5_tries_176 ⟨Nat.zero_le _, Nat.zero_le _⟩) hw [0, 1, 2, 3, 4, 5] [] rfl rfl (by decide) (by decide) (fun u176 H locs w176 hw => ?_)
          obtain ⟨fb2_176, ft2_176, bs2_176⟩ := u176
          replace hw : kW D (kty cI cC cJ cG) s (va_A [(h0, .inr (7, [.int th, .int (nI G), .ref z1, .int (nI mw), .int mg, .int up, .int ch, .int (nI N), .ref z2, .ref z3, .ref z4, .ref z5, .int sh, .int li, .int fp, .int sp, .int (nI hc), .ref z6, .int bk, .long fr, .long pa, .long lo, .long st, .long ma, .int ph, .int tr, .int bs, .ref z7, .ref z8])), (z2, .inl (cI, 10, .inl og)), (z3, .inl (cI, 10, .inl ow)), (z4, .inl (cI, 10, .inl ol)), (z7, .inl (cI, 10, .inl ft)), (z8, .inl (cI, 10, .inl fb))] s.heap.size) [(h0, .inr (7, [.int th, .int (nI G), .ref z1, .int (nI mw), .int mg, .int up, .int ch, .int (nI N), .ref z2, .ref z3, .ref z4, .ref z5, .int sh, .int li, .int fp, .int sp, .int (nI hc), .ref z6, .int bk, .long fr, .long pa, .long lo, .long st, .long ma, .int ph, .int tr, .int bs2_176, .ref z7, .ref z8])), (z2, .inl (cI, 10, .inl og)), (z3, .inl (cI, 10, .inl ow)), (z4, .inl (cI, 10, .inl ol)), (z7, .inl (cI, 10, .inl ft2_176)), (z8, .inl (cI, 10, .inl fb2_176))] H locs := hw
          obtain ⟨⟨hb2, hfb2⟩, hft2⟩ := w176
          rw [tr_try ht6] at hb2 hfb2
          refine lv_iinc (v := (nI t) + (-1)) (lv' := [(6, .int ((nI t) + (-1))), (0, .ref h0), (1, .int p0), (2, .int (nI a)), (3, .int (nI rl)), (4, .int (nI sm))]) hx hb dX5_tries_179 hl (k := 0) rfl rfl (by decide) rfl (fun ls hl => ?_)
          refine lv_goto (tgt := 142) hx hb dX5_tries_182 (by decide) ?_
          exact ih142 (t, (nI t) + (-1), fb2_176, ft2_176, bs2_176) _ _ _ (show t ≤ min (min (m_cap og lk p0 a) (6 - rl)) ((mw - sm) / w a) + 1 ∧ ((nI t) + (-1)) = nI t - 1 ∧ (∃ bv1 : Nat → Nat, (∀ j, j < N → fb2_176 j = nI (bv1 j)) ∧ ct_L (ct_g (m_cap og lk p0) w k a (6 - rl) (mw - sm) sm tv) t (bs2_176, bv1) = ct_L (ct_g (m_cap og lk p0) w k a (6 - rl) (mw - sm) sm tv) (min (min (m_cap og lk p0 a) (6 - rl)) ((mw - sm) / w a) + 1) (bs, bv)) ∧ ∀ j, j < a → ft2_176 j = ft j from ⟨by omega, i_m1 t, ⟨_, hfb2, by rw [hb2, ← hT, ct_L]⟩, fun j hj => by rw [hft2 j (by omega), pk_un (by omega)]; exact hft1 j hj⟩) (show t < (t + 1) from by omega) hw (lv_sub hl [0, 1, 2, 3, 4, 5] rfl)
  · refine lv_aload_n hx hb dX5_tries_66 rfl (lv_at hl 0 rfl) ?_
    refine k_get hx hb hts i_X5 hown hw 0 10 rfl rfl (by decide) k_f30 rfl dX5_tries_67 ?_
    refine lv_iload_n hx hb dX5_tries_70 rfl (lv_at hl 2 rfl) ?_
    refine k_iald hx hb hw 3 0 rfl rfl a rfl (by omega) (Nat.le_of_ble_eq_true rfl) dX5_tries_71 ?_
    refine k_eqi (y := nI (m_cap og lk p0 a)) ((hfm a ha10).trans (congrArg nI (m_cap_t c63).symm)) ?_
    refine lv_goto (tgt := 76) hx hb dX5_tries_72 (by decide) ?_
    refine lv_istore (lv' := [(5, .int (nI (m_cap og lk p0 a))), (0, .ref h0), (1, .int p0), (2, .int (nI a)), (3, .int (nI rl)), (4, .int (nI sm))]) hx hb dX5_tries_76 hl (by decide) rfl (fun ls hl => ?_)
    refine lv_iload hx hb dX5_tries_78 (lv_at hl 0 rfl) ?_
    refine lv_bipush (v := 6) hx hb dX5_tries_80 (by decide) ?_
    refine lv_iload_n hx hb dX5_tries_82 rfl (lv_at hl 4 rfl) ?_
    refine lv_isub hx hb dX5_tries_83 ?_
    refine k_eqi (y := nI (6 - rl)) (pk_sub (a := 6) hrl) ?_
    refine lv_icmp_ge (tgt := 92) hx hb dX5_tries_84 (by decide) (fun c84 => ?_) (fun c84 => ?_)
    · refine lv_bipush (v := 6) hx hb dX5_tries_92 (by decide) ?_
      refine lv_iload_n hx hb dX5_tries_94 rfl (lv_at hl 4 rfl) ?_
      refine lv_isub hx hb dX5_tries_95 ?_
      refine k_eqi (y := nI (min (m_cap og lk p0 a) (6 - rl))) ((pk_sub (a := 6) hrl).trans (m_min_t (by omega) (by omega) c84)) ?_
      refine lv_istore (lv' := [(5, .int (nI (min (m_cap og lk p0 a) (6 - rl)))), (0, .ref h0), (1, .int p0), (2, .int (nI a)), (3, .int (nI rl)), (4, .int (nI sm))]) hx hb dX5_tries_96 hl (by decide) rfl (fun ls hl => ?_)
      refine lv_iload hx hb dX5_tries_98 (lv_at hl 0 rfl) ?_
      refine lv_aload_n hx hb dX5_tries_100 rfl (lv_at hl 1 rfl) ?_
      refine k_get hx hb hts i_X5 hown hw 0 3 rfl rfl (by decide) k_f13 rfl dX5_tries_101 ?_
      refine lv_iload hx hb dX5_tries_104 (lv_at hl 5 rfl) ?_
      refine lv_isub hx hb dX5_tries_106 ?_
      refine k_eqi (y := nI (mw - sm)) (pk_sub hsm) ?_
      refine lv_aload_n hx hb dX5_tries_107 rfl (lv_at hl 1 rfl) ?_
      refine k_get hx hb hts i_X5 hown hw 0 9 rfl rfl (by decide) k_f27 rfl dX5_tries_108 ?_
      refine lv_iload_n hx hb dX5_tries_111 rfl (lv_at hl 3 rfl) ?_
      refine k_iald hx hb hw 2 0 rfl rfl a rfl (by omega) (Nat.le_of_ble_eq_true rfl) dX5_tries_112 ?_
      refine k_eqi (y := nI (w a)) (hfw a ha10) ?_
      refine lv_idiv hx hb dX5_tries_113 (nI_ne0 hwp (by omega)) ?_
      refine k_eqi (y := nI ((mw - sm) / w a)) (pk_div (by omega) hwp (by omega)) ?_
      refine lv_icmp_ge (tgt := 122) hx hb dX5_tries_114 (by decide) (fun c114 => ?_) (fun c114 => ?_)
      · refine lv_aload_n hx hb dX5_tries_122 rfl (lv_at hl 1 rfl) ?_
        refine k_get hx hb hts i_X5 hown hw 0 3 rfl rfl (by decide) k_f13 rfl dX5_tries_123 ?_
        refine lv_iload hx hb dX5_tries_126 (lv_at hl 5 rfl) ?_
        refine lv_isub hx hb dX5_tries_128 ?_
        refine k_eqi (y := nI (mw - sm)) (pk_sub hsm) ?_
        refine lv_aload_n hx hb dX5_tries_129 rfl (lv_at hl 1 rfl) ?_
        refine k_get hx hb hts i_X5 hown hw 0 9 rfl rfl (by decide) k_f27 rfl dX5_tries_130 ?_
        refine lv_iload_n hx hb dX5_tries_133 rfl (lv_at hl 3 rfl) ?_
        refine k_iald hx hb hw 2 0 rfl rfl a rfl (by omega) (Nat.le_of_ble_eq_true rfl) dX5_tries_134 ?_
        refine k_eqi (y := nI (w a)) (hfw a ha10) ?_
        refine lv_idiv hx hb dX5_tries_135 (nI_ne0 hwp (by omega)) ?_
        refine k_eqi (y := nI (min (min (m_cap og lk p0 a) (6 - rl)) ((mw - sm) / w a))) ((pk_div (by omega) hwp (by omega)).trans (m_min_t (by omega) (by omega) c114)) ?_
        refine lv_istore (lv' := [(5, .int (nI (min (min (m_cap og lk p0 a) (6 - rl)) ((mw - sm) / w a)))), (0, .ref h0), (1, .int p0), (2, .int (nI a)), (3, .int (nI rl)), (4, .int (nI sm))]) hx hb dX5_tries_136 hl (by decide) rfl (fun ls hl => ?_)
        refine lv_iload hx hb dX5_tries_138 (lv_at hl 0 rfl) ?_
        refine lv_istore (lv' := [(6, .int (nI (min (min (m_cap og lk p0 a) (6 - rl)) ((mw - sm) / w a)))), (5, .int (nI (min (min (m_cap og lk p0 a) (6 - rl)) ((mw - sm) / w a)))), (0, .ref h0), (1, .int p0), (2, .int (nI a)), (3, .int (nI rl)), (4, .int (nI sm))]) hx hb dX5_tries_140 hl (by decide) rfl (fun ls hl => ?_)
        replace hl : lv_has _ 7 [(6, .int (nI (min (min (m_cap og lk p0 a) (6 - rl)) ((mw - sm) / w a)))), (0, .ref h0), (1, .int p0), (2, .int (nI a)), (3, .int (nI rl)), (4, .int (nI sm))] := lv_sub hl [0, 2, 3, 4, 5, 6] rfl
        replace hw : kW D (kty cI cC cJ cG) s (va_A [(h0, .inr (7, [.int th, .int (nI G), .ref z1, .int (nI mw), .int mg, .int up, .int ch, .int (nI N), .ref z2, .ref z3, .ref z4, .ref z5, .int sh, .int li, .int fp, .int sp, .int (nI hc), .ref z6, .int bk, .long fr, .long pa, .long lo, .long st, .long ma, .int ph, .int tr, .int bs, .ref z7, .ref z8])), (z2, .inl (cI, 10, .inl og)), (z3, .inl (cI, 10, .inl ow)), (z4, .inl (cI, 10, .inl ol)), (z7, .inl (cI, 10, .inl ft)), (z8, .inl (cI, 10, .inl fb))] s.heap.size) [(h0, .inr (7, [.int th, .int (nI G), .ref z1, .int (nI mw), .int mg, .int up, .int ch, .int (nI N), .ref z2, .ref z3, .ref z4, .ref z5, .int sh, .int li, .int fp, .int sp, .int (nI hc), .ref z6, .int bk, .long fr, .long pa, .long lo, .long st, .long ma, .int ph, .int tr, .int bs, .ref z7, .ref z8])), (z2, .inl (cI, 10, .inl og)), (z3, .inl (cI, 10, .inl ow)), (z4, .inl (cI, 10, .inl ol)), (z7, .inl (cI, 10, .inl ft)), (z8, .inl (cI, 10, .inl fb))] H locs := hw
        revert hl; revert hw; revert ls; revert locs; revert H
        refine k_loop (fun ((q, x, fb1, ft1, bs1) : (Nat) × (Int32) × (Nat → Int32) × (Nat → Int32) × (Int32)) => q ≤ min (min (m_cap og lk p0 a) (6 - rl)) ((mw - sm) / w a) + 1 ∧ x = nI q - 1 ∧ (∃ bv1 : Nat → Nat, (∀ j, j < N → fb1 j = nI (bv1 j)) ∧ ct_L (ct_g (m_cap og lk p0) w k a (6 - rl) (mw - sm) sm tv) q (bs1, bv1) = ct_L (ct_g (m_cap og lk p0) w k a (6 - rl) (mw - sm) sm tv) (min (min (m_cap og lk p0 a) (6 - rl)) ((mw - sm) / w a) + 1) (bs, bv)) ∧ ∀ j, j < a → ft1 j = ft j) (fun ((q, x, fb1, ft1, bs1) : (Nat) × (Int32) × (Nat → Int32) × (Nat → Int32) × (Int32)) => q) (fun ((q, x, fb1, ft1, bs1) : (Nat) × (Int32) × (Nat → Int32) × (Nat → Int32) × (Int32)) => [(h0, .inr (7, [.int th, .int (nI G), .ref z1, .int (nI mw), .int mg, .int up, .int ch, .int (nI N), .ref z2, .ref z3, .ref z4, .ref z5, .int sh, .int li, .int fp, .int sp, .int (nI hc), .ref z6, .int bk, .long fr, .long pa, .long lo, .long st, .long ma, .int ph, .int tr, .int bs1, .ref z7, .ref z8])), (z2, .inl (cI, 10, .inl og)), (z3, .inl (cI, 10, .inl ow)), (z4, .inl (cI, 10, .inl ol)), (z7, .inl (cI, 10, .inl ft1)), (z8, .inl (cI, 10, .inl fb1))]) (fun ((q, x, fb1, ft1, bs1) : (Nat) × (Int32) × (Nat → Int32) × (Nat → Int32) × (Int32)) => [(6, .int x), (0, .ref h0), (1, .int p0), (2, .int (nI a)), (3, .int (nI rl)), (4, .int (nI sm))]) (min (min (m_cap og lk p0 a) (6 - rl)) ((mw - sm) / w a) + 1, nI (min (min (m_cap og lk p0 a) (6 - rl)) ((mw - sm) / w a)), fb, ft, bs) (show (min (min (m_cap og lk p0 a) (6 - rl)) ((mw - sm) / w a) + 1) ≤ min (min (m_cap og lk p0 a) (6 - rl)) ((mw - sm) / w a) + 1 ∧ (nI (min (min (m_cap og lk p0 a) (6 - rl)) ((mw - sm) / w a))) = nI (min (min (m_cap og lk p0 a) (6 - rl)) ((mw - sm) / w a) + 1) - 1 ∧ (∃ bv1 : Nat → Nat, (∀ j, j < N → fb j = nI (bv1 j)) ∧ ct_L (ct_g (m_cap og lk p0) w k a (6 - rl) (mw - sm) sm tv) (min (min (m_cap og lk p0 a) (6 - rl)) ((mw - sm) / w a) + 1) (bs, bv1) = ct_L (ct_g (m_cap og lk p0) w k a (6 - rl) (mw - sm) sm tv) (min (min (m_cap og lk p0 a) (6 - rl)) ((mw - sm) / w a) + 1) (bs, bv)) ∧ ∀ j, j < a → ft j = ft j from ⟨Nat.le_refl _, (nI_pred _).symm, ⟨bv, hfb, rfl⟩, fun _ _ => rfl⟩) ?_
        intro ⟨q, x, fb1, ft1, bs1⟩ hI ih142 H locs ls hw hl
        replace hI : q ≤ min (min (m_cap og lk p0 a) (6 - rl)) ((mw - sm) / w a) + 1 ∧ x = nI q - 1 ∧ (∃ bv1 : Nat → Nat, (∀ j, j < N → fb1 j = nI (bv1 j)) ∧ ct_L (ct_g (m_cap og lk p0) w k a (6 - rl) (mw - sm) sm tv) q (bs1, bv1) = ct_L (ct_g (m_cap og lk p0) w k a (6 - rl) (mw - sm) sm tv) (min (min (m_cap og lk p0 a) (6 - rl)) ((mw - sm) / w a) + 1) (bs, bv)) ∧ ∀ j, j < a → ft1 j = ft j := hI
        replace hw : kW D (kty cI cC cJ cG) s (va_A [(h0, .inr (7, [.int th, .int (nI G), .ref z1, .int (nI mw), .int mg, .int up, .int ch, .int (nI N), .ref z2, .ref z3, .ref z4, .ref z5, .int sh, .int li, .int fp, .int sp, .int (nI hc), .ref z6, .int bk, .long fr, .long pa, .long lo, .long st, .long ma, .int ph, .int tr, .int bs, .ref z7, .ref z8])), (z2, .inl (cI, 10, .inl og)), (z3, .inl (cI, 10, .inl ow)), (z4, .inl (cI, 10, .inl ol)), (z7, .inl (cI, 10, .inl ft)), (z8, .inl (cI, 10, .inl fb))] s.heap.size) [(h0, .inr (7, [.int th, .int (nI G), .ref z1, .int (nI mw), .int mg, .int up, .int ch, .int (nI N), .ref z2, .ref z3, .ref z4, .ref z5, .int sh, .int li, .int fp, .int sp, .int (nI hc), .ref z6, .int bk, .long fr, .long pa, .long lo, .long st, .long ma, .int ph, .int tr, .int bs1, .ref z7, .ref z8])), (z2, .inl (cI, 10, .inl og)), (z3, .inl (cI, 10, .inl ow)), (z4, .inl (cI, 10, .inl ol)), (z7, .inl (cI, 10, .inl ft1)), (z8, .inl (cI, 10, .inl fb1))] H locs := hw
        replace hl : lv_has ls 7 [(6, .int x), (0, .ref h0), (1, .int p0), (2, .int (nI a)), (3, .int (nI rl)), (4, .int (nI sm))] := hl
        refine lv_iload hx hb dX5_tries_142 (lv_at hl 0 rfl) ?_
        refine lv_if_lt (tgt := 185) hx hb dX5_tries_144 (by decide) (fun c144 => ?_) (fun c144 => ?_)
        · have hq0 : q = 0 := by rcases Nat.eq_zero_or_pos q with z | z; exact z; (obtain ⟨t, rfl⟩ : ∃ t, q = t + 1 := ⟨q - 1, by omega⟩); (rw [hI.2.1, nI_pred] at c144); exact absurd c144 (Int32.not_lt.mpr (nI_pos' (by omega)))
          obtain ⟨-, -, ⟨bv1, hok, hT⟩, hft1⟩ := hI
          rw [hq0, ct_L, ct_g_node (m_cap og lk p0) w k a (6 - rl) (mw - sm) sm tv (by omega) (bs, bv) _ rfl] at hT
          exact k_vret (fb1, ft1, bs1) hx hb hr hlocks hw ⟨by rw [← hT]; exact ⟨rfl, hok⟩, hft1⟩ dX5_tries_185
        · obtain ⟨t, rfl⟩ : ∃ t, q = t + 1 := ⟨q - 1, by rcases Nat.eq_zero_or_pos q with z | z; (subst z; exact absurd (by rw [hI.2.1]; decide) c144); omega⟩
          obtain rfl : x = nI t := by rw [hI.2.1]; exact nI_pred t
          obtain ⟨hq, -, ⟨bv1, hok, hT⟩, hft1⟩ := hI
          have ht6 : t ≤ 6 - rl := by omega
          have htw : t * w a ≤ mw - sm := ct_mul (show t ≤ (mw - sm) / w a by omega)
          refine lv_aload_n hx hb dX5_tries_147 rfl (lv_at hl 1 rfl) ?_
          refine k_get hx hb hts i_X5 hown hw 0 27 rfl rfl (by decide) k_f52 rfl dX5_tries_148 ?_
          refine lv_iload_n hx hb dX5_tries_151 rfl (lv_at hl 3 rfl) ?_
          refine lv_iload hx hb dX5_tries_152 (lv_at hl 0 rfl) ?_
          refine k_iast (ws' := [(h0, .inr (7, [.int th, .int (nI G), .ref z1, .int (nI mw), .int mg, .int up, .int ch, .int (nI N), .ref z2, .ref z3, .ref z4, .ref z5, .int sh, .int li, .int fp, .int sp, .int (nI hc), .ref z6, .int bk, .long fr, .long pa, .long lo, .long st, .long ma, .int ph, .int tr, .int bs1, .ref z7, .ref z8])), (z2, .inl (cI, 10, .inl og)), (z3, .inl (cI, 10, .inl ow)), (z4, .inl (cI, 10, .inl ol)), (z7, .inl (cI, 10, .inl (upd ft1 a (nI t)))), (z8, .inl (cI, 10, .inl fb1))]) hx hb hw 4 0 rfl rfl a rfl (by omega) (Nat.le_of_ble_eq_true rfl) rfl dX5_tries_154 (fun H locs hw => ?_)
          refine lv_aload_n hx hb dX5_tries_155 rfl (lv_at hl 1 rfl) ?_
          refine lv_iload_n hx hb dX5_tries_156 rfl (lv_at hl 2 rfl) ?_
          refine lv_iload_n hx hb dX5_tries_157 rfl (lv_at hl 3 rfl) ?_
          refine lv_iconst (v := 1) hx hb dX5_tries_158 (by decide) ?_
          refine lv_iadd hx hb dX5_tries_159 ?_
          refine k_eqi (nI_1 a) ?_
          refine lv_iload_n hx hb dX5_tries_160 rfl (lv_at hl 4 rfl) ?_
          refine lv_iload hx hb dX5_tries_161 (lv_at hl 0 rfl) ?_
          refine lv_iadd hx hb dX5_tries_163 ?_
          refine k_eqi (y := nI (rl + t)) (nI_add _ _) ?_
          refine lv_iload hx hb dX5_tries_164 (lv_at hl 5 rfl) ?_
          refine lv_iload hx hb dX5_tries_166 (lv_at hl 0 rfl) ?_
          refine lv_aload_n hx hb dX5_tries_168 rfl (lv_at hl 1 rfl) ?_
          refine k_get hx hb hts i_X5 hown hw 0 9 rfl rfl (by decide) k_f27 rfl dX5_tries_169 ?_
          refine lv_iload_n hx hb dX5_tries_172 rfl (lv_at hl 3 rfl) ?_
          refine k_iald hx hb hw 2 0 rfl rfl a rfl (by omega) (Nat.le_of_ble_eq_true rfl) dX5_tries_173 ?_
          refine k_eqi (y := nI (w a)) (hfw a ha10) ?_
          refine lv_imul hx hb dX5_tries_174 ?_
          refine k_eqi (y := nI (t * w a)) (pk_mul t (w a)) ?_
          refine lv_iadd hx hb dX5_tries_175 ?_
          refine k_eqi (y := nI (sm + t * w a)) (nI_add _ _) ?_
          refine k_callv (wr := []) (k_runV (wc := [(h0, .inr (7, [.int th, .int (nI G), .ref z1, .int (nI mw), .int mg, .int up, .int ch, .int (nI N), .ref z2, .ref z3, .ref z4, .ref z5, .int sh, .int li, .int fp, .int sp, .int (nI hc), .ref z6, .int bk, .long fr, .long pa, .long lo, .long st, .long ma, .int ph, .int tr, .int bs1, .ref z7, .ref z8])), (z2, .inl (cI, 10, .inl og)), (z3, .inl (cI, 10, .inl ow)), (z4, .inl (cI, 10, .inl ol)), (z7, .inl (cI, 10, .inl (upd ft1 a (nI t)))), (z8, .inl (cI, 10, .inl fb1))]) (As := [.int p0, .int (nI (a + 1)), .int (nI (rl + t)), .int (nI (sm + t * w a))]) (rest := []) ⟨hx, hb, hml, hown, hts⟩ (ih h0 z2 z3 z4 z7 z8 H.size z1 z5 z6 th G mw mg up ch N sh li fp sp hc bk fr pa lo st ma ph tr bs1 og ow ol (upd ft1 a (nI t)) fb1 p0 (a + 1) (rl + t) (sm + t * w a) lk w bv1 (fun j => if j = a then t else tv j) (by omega) hN (by omega) hmw (by omega) hfw hfm hwb hlk hpos hok (sr_tv hft1 hft)) (cwV 4 hts gX5_tries_X5_tries rfl rfl rfl (by decide +kernel) ⟨by dsimp only; omega, by dsimp only; omega⟩) hw [0, 1, 2, 3, 4, 5] (by decide) rfl 0 rfl rfl rfl hl.1 rfl (Nat.le_of_ble_eq_true rfl) dX5_tries_176 ⟨Nat.zero_le _, Nat.zero_le _⟩) hw [0, 1, 2, 3, 4, 5] [] rfl rfl (by decide) (by decide) (fun u176 H locs w176 hw => ?_)
          obtain ⟨fb2_176, ft2_176, bs2_176⟩ := u176
          replace hw : kW D (kty cI cC cJ cG) s (va_A [(h0, .inr (7, [.int th, .int (nI G), .ref z1, .int (nI mw), .int mg, .int up, .int ch, .int (nI N), .ref z2, .ref z3, .ref z4, .ref z5, .int sh, .int li, .int fp, .int sp, .int (nI hc), .ref z6, .int bk, .long fr, .long pa, .long lo, .long st, .long ma, .int ph, .int tr, .int bs, .ref z7, .ref z8])), (z2, .inl (cI, 10, .inl og)), (z3, .inl (cI, 10, .inl ow)), (z4, .inl (cI, 10, .inl ol)), (z7, .inl (cI, 10, .inl ft)), (z8, .inl (cI, 10, .inl fb))] s.heap.size) [(h0, .inr (7, [.int th, .int (nI G), .ref z1, .int (nI mw), .int mg, .int up, .int ch, .int (nI N), .ref z2, .ref z3, .ref z4, .ref z5, .int sh, .int li, .int fp, .int sp, .int (nI hc), .ref z6, .int bk, .long fr, .long pa, .long lo, .long st, .long ma, .int ph, .int tr, .int bs2_176, .ref z7, .ref z8])), (z2, .inl (cI, 10, .inl og)), (z3, .inl (cI, 10, .inl ow)), (z4, .inl (cI, 10, .inl ol)), (z7, .inl (cI, 10, .inl ft2_176)), (z8, .inl (cI, 10, .inl fb2_176))] H locs := hw
          obtain ⟨⟨hb2, hfb2⟩, hft2⟩ := w176
          rw [tr_try ht6] at hb2 hfb2
          refine lv_iinc (v := (nI t) + (-1)) (lv' := [(6, .int ((nI t) + (-1))), (0, .ref h0), (1, .int p0), (2, .int (nI a)), (3, .int (nI rl)), (4, .int (nI sm))]) hx hb dX5_tries_179 hl (k := 0) rfl rfl (by decide) rfl (fun ls hl => ?_)
          refine lv_goto (tgt := 142) hx hb dX5_tries_182 (by decide) ?_
          exact ih142 (t, (nI t) + (-1), fb2_176, ft2_176, bs2_176) _ _ _ (show t ≤ min (min (m_cap og lk p0 a) (6 - rl)) ((mw - sm) / w a) + 1 ∧ ((nI t) + (-1)) = nI t - 1 ∧ (∃ bv1 : Nat → Nat, (∀ j, j < N → fb2_176 j = nI (bv1 j)) ∧ ct_L (ct_g (m_cap og lk p0) w k a (6 - rl) (mw - sm) sm tv) t (bs2_176, bv1) = ct_L (ct_g (m_cap og lk p0) w k a (6 - rl) (mw - sm) sm tv) (min (min (m_cap og lk p0 a) (6 - rl)) ((mw - sm) / w a) + 1) (bs, bv)) ∧ ∀ j, j < a → ft2_176 j = ft j from ⟨by omega, i_m1 t, ⟨_, hfb2, by rw [hb2, ← hT, ct_L]⟩, fun j hj => by rw [hft2 j (by omega), pk_un (by omega)]; exact hft1 j hj⟩) (show t < (t + 1) from by omega) hw (lv_sub hl [0, 1, 2, 3, 4, 5] rfl)
      · refine lv_iload hx hb dX5_tries_117 (lv_at hl 0 rfl) ?_
        refine k_eqi (y := nI (min (min (m_cap og lk p0 a) (6 - rl)) ((mw - sm) / w a))) (m_min_f (by omega) (by omega) c114) ?_
        refine lv_goto (tgt := 136) hx hb dX5_tries_119 (by decide) ?_
        refine lv_istore (lv' := [(5, .int (nI (min (min (m_cap og lk p0 a) (6 - rl)) ((mw - sm) / w a)))), (0, .ref h0), (1, .int p0), (2, .int (nI a)), (3, .int (nI rl)), (4, .int (nI sm))]) hx hb dX5_tries_136 hl (by decide) rfl (fun ls hl => ?_)
        refine lv_iload hx hb dX5_tries_138 (lv_at hl 0 rfl) ?_
        refine lv_istore (lv' := [(6, .int (nI (min (min (m_cap og lk p0 a) (6 - rl)) ((mw - sm) / w a)))), (5, .int (nI (min (min (m_cap og lk p0 a) (6 - rl)) ((mw - sm) / w a)))), (0, .ref h0), (1, .int p0), (2, .int (nI a)), (3, .int (nI rl)), (4, .int (nI sm))]) hx hb dX5_tries_140 hl (by decide) rfl (fun ls hl => ?_)
        replace hl : lv_has _ 7 [(6, .int (nI (min (min (m_cap og lk p0 a) (6 - rl)) ((mw - sm) / w a)))), (0, .ref h0), (1, .int p0), (2, .int (nI a)), (3, .int (nI rl)), (4, .int (nI sm))] := lv_sub hl [0, 2, 3, 4, 5, 6] rfl
        replace hw : kW D (kty cI cC cJ cG) s (va_A [(h0, .inr (7, [.int th, .int (nI G), .ref z1, .int (nI mw), .int mg, .int up, .int ch, .int (nI N), .ref z2, .ref z3, .ref z4, .ref z5, .int sh, .int li, .int fp, .int sp, .int (nI hc), .ref z6, .int bk, .long fr, .long pa, .long lo, .long st, .long ma, .int ph, .int tr, .int bs, .ref z7, .ref z8])), (z2, .inl (cI, 10, .inl og)), (z3, .inl (cI, 10, .inl ow)), (z4, .inl (cI, 10, .inl ol)), (z7, .inl (cI, 10, .inl ft)), (z8, .inl (cI, 10, .inl fb))] s.heap.size) [(h0, .inr (7, [.int th, .int (nI G), .ref z1, .int (nI mw), .int mg, .int up, .int ch, .int (nI N), .ref z2, .ref z3, .ref z4, .ref z5, .int sh, .int li, .int fp, .int sp, .int (nI hc), .ref z6, .int bk, .long fr, .long pa, .long lo, .long st, .long ma, .int ph, .int tr, .int bs, .ref z7, .ref z8])), (z2, .inl (cI, 10, .inl og)), (z3, .inl (cI, 10, .inl ow)), (z4, .inl (cI, 10, .inl ol)), (z7, .inl (cI, 10, .inl ft)), (z8, .inl (cI, 10, .inl fb))] H locs := hw
        revert hl; revert hw; revert ls; revert locs; revert H
        refine k_loop (fun ((q, x, fb1, ft1, bs1) : (Nat) × (Int32) × (Nat → Int32) × (Nat → Int32) × (Int32)) => q ≤ min (min (m_cap og lk p0 a) (6 - rl)) ((mw - sm) / w a) + 1 ∧ x = nI q - 1 ∧ (∃ bv1 : Nat → Nat, (∀ j, j < N → fb1 j = nI (bv1 j)) ∧ ct_L (ct_g (m_cap og lk p0) w k a (6 - rl) (mw - sm) sm tv) q (bs1, bv1) = ct_L (ct_g (m_cap og lk p0) w k a (6 - rl) (mw - sm) sm tv) (min (min (m_cap og lk p0 a) (6 - rl)) ((mw - sm) / w a) + 1) (bs, bv)) ∧ ∀ j, j < a → ft1 j = ft j) (fun ((q, x, fb1, ft1, bs1) : (Nat) × (Int32) × (Nat → Int32) × (Nat → Int32) × (Int32)) => q) (fun ((q, x, fb1, ft1, bs1) : (Nat) × (Int32) × (Nat → Int32) × (Nat → Int32) × (Int32)) => [(h0, .inr (7, [.int th, .int (nI G), .ref z1, .int (nI mw), .int mg, .int up, .int ch, .int (nI N), .ref z2, .ref z3, .ref z4, .ref z5, .int sh, .int li, .int fp, .int sp, .int (nI hc), .ref z6, .int bk, .long fr, .long pa, .long lo, .long st, .long ma, .int ph, .int tr, .int bs1, .ref z7, .ref z8])), (z2, .inl (cI, 10, .inl og)), (z3, .inl (cI, 10, .inl ow)), (z4, .inl (cI, 10, .inl ol)), (z7, .inl (cI, 10, .inl ft1)), (z8, .inl (cI, 10, .inl fb1))]) (fun ((q, x, fb1, ft1, bs1) : (Nat) × (Int32) × (Nat → Int32) × (Nat → Int32) × (Int32)) => [(6, .int x), (0, .ref h0), (1, .int p0), (2, .int (nI a)), (3, .int (nI rl)), (4, .int (nI sm))]) (min (min (m_cap og lk p0 a) (6 - rl)) ((mw - sm) / w a) + 1, nI (min (min (m_cap og lk p0 a) (6 - rl)) ((mw - sm) / w a)), fb, ft, bs) (show (min (min (m_cap og lk p0 a) (6 - rl)) ((mw - sm) / w a) + 1) ≤ min (min (m_cap og lk p0 a) (6 - rl)) ((mw - sm) / w a) + 1 ∧ (nI (min (min (m_cap og lk p0 a) (6 - rl)) ((mw - sm) / w a))) = nI (min (min (m_cap og lk p0 a) (6 - rl)) ((mw - sm) / w a) + 1) - 1 ∧ (∃ bv1 : Nat → Nat, (∀ j, j < N → fb j = nI (bv1 j)) ∧ ct_L (ct_g (m_cap og lk p0) w k a (6 - rl) (mw - sm) sm tv) (min (min (m_cap og lk p0 a) (6 - rl)) ((mw - sm) / w a) + 1) (bs, bv1) = ct_L (ct_g (m_cap og lk p0) w k a (6 - rl) (mw - sm) sm tv) (min (min (m_cap og lk p0 a) (6 - rl)) ((mw - sm) / w a) + 1) (bs, bv)) ∧ ∀ j, j < a → ft j = ft j from ⟨Nat.le_refl _, (nI_pred _).symm, ⟨bv, hfb, rfl⟩, fun _ _ => rfl⟩) ?_
        intro ⟨q, x, fb1, ft1, bs1⟩ hI ih142 H locs ls hw hl
        replace hI : q ≤ min (min (m_cap og lk p0 a) (6 - rl)) ((mw - sm) / w a) + 1 ∧ x = nI q - 1 ∧ (∃ bv1 : Nat → Nat, (∀ j, j < N → fb1 j = nI (bv1 j)) ∧ ct_L (ct_g (m_cap og lk p0) w k a (6 - rl) (mw - sm) sm tv) q (bs1, bv1) = ct_L (ct_g (m_cap og lk p0) w k a (6 - rl) (mw - sm) sm tv) (min (min (m_cap og lk p0 a) (6 - rl)) ((mw - sm) / w a) + 1) (bs, bv)) ∧ ∀ j, j < a → ft1 j = ft j := hI
        replace hw : kW D (kty cI cC cJ cG) s (va_A [(h0, .inr (7, [.int th, .int (nI G), .ref z1, .int (nI mw), .int mg, .int up, .int ch, .int (nI N), .ref z2, .ref z3, .ref z4, .ref z5, .int sh, .int li, .int fp, .int sp, .int (nI hc), .ref z6, .int bk, .long fr, .long pa, .long lo, .long st, .long ma, .int ph, .int tr, .int bs, .ref z7, .ref z8])), (z2, .inl (cI, 10, .inl og)), (z3, .inl (cI, 10, .inl ow)), (z4, .inl (cI, 10, .inl ol)), (z7, .inl (cI, 10, .inl ft)), (z8, .inl (cI, 10, .inl fb))] s.heap.size) [(h0, .inr (7, [.int th, .int (nI G), .ref z1, .int (nI mw), .int mg, .int up, .int ch, .int (nI N), .ref z2, .ref z3, .ref z4, .ref z5, .int sh, .int li, .int fp, .int sp, .int (nI hc), .ref z6, .int bk, .long fr, .long pa, .long lo, .long st, .long ma, .int ph, .int tr, .int bs1, .ref z7, .ref z8])), (z2, .inl (cI, 10, .inl og)), (z3, .inl (cI, 10, .inl ow)), (z4, .inl (cI, 10, .inl ol)), (z7, .inl (cI, 10, .inl ft1)), (z8, .inl (cI, 10, .inl fb1))] H locs := hw
        replace hl : lv_has ls 7 [(6, .int x), (0, .ref h0), (1, .int p0), (2, .int (nI a)), (3, .int (nI rl)), (4, .int (nI sm))] := hl
        refine lv_iload hx hb dX5_tries_142 (lv_at hl 0 rfl) ?_
        refine lv_if_lt (tgt := 185) hx hb dX5_tries_144 (by decide) (fun c144 => ?_) (fun c144 => ?_)
        · have hq0 : q = 0 := by rcases Nat.eq_zero_or_pos q with z | z; exact z; (obtain ⟨t, rfl⟩ : ∃ t, q = t + 1 := ⟨q - 1, by omega⟩); (rw [hI.2.1, nI_pred] at c144); exact absurd c144 (Int32.not_lt.mpr (nI_pos' (by omega)))
          obtain ⟨-, -, ⟨bv1, hok, hT⟩, hft1⟩ := hI
          rw [hq0, ct_L, ct_g_node (m_cap og lk p0) w k a (6 - rl) (mw - sm) sm tv (by omega) (bs, bv) _ rfl] at hT
          exact k_vret (fb1, ft1, bs1) hx hb hr hlocks hw ⟨by rw [← hT]; exact ⟨rfl, hok⟩, hft1⟩ dX5_tries_185
        · obtain ⟨t, rfl⟩ : ∃ t, q = t + 1 := ⟨q - 1, by rcases Nat.eq_zero_or_pos q with z | z; (subst z; exact absurd (by rw [hI.2.1]; decide) c144); omega⟩
          obtain rfl : x = nI t := by rw [hI.2.1]; exact nI_pred t
          obtain ⟨hq, -, ⟨bv1, hok, hT⟩, hft1⟩ := hI
          have ht6 : t ≤ 6 - rl := by omega
          have htw : t * w a ≤ mw - sm := ct_mul (show t ≤ (mw - sm) / w a by omega)
          refine lv_aload_n hx hb dX5_tries_147 rfl (lv_at hl 1 rfl) ?_
          refine k_get hx hb hts i_X5 hown hw 0 27 rfl rfl (by decide) k_f52 rfl dX5_tries_148 ?_
          refine lv_iload_n hx hb dX5_tries_151 rfl (lv_at hl 3 rfl) ?_
          refine lv_iload hx hb dX5_tries_152 (lv_at hl 0 rfl) ?_
          refine k_iast (ws' := [(h0, .inr (7, [.int th, .int (nI G), .ref z1, .int (nI mw), .int mg, .int up, .int ch, .int (nI N), .ref z2, .ref z3, .ref z4, .ref z5, .int sh, .int li, .int fp, .int sp, .int (nI hc), .ref z6, .int bk, .long fr, .long pa, .long lo, .long st, .long ma, .int ph, .int tr, .int bs1, .ref z7, .ref z8])), (z2, .inl (cI, 10, .inl og)), (z3, .inl (cI, 10, .inl ow)), (z4, .inl (cI, 10, .inl ol)), (z7, .inl (cI, 10, .inl (upd ft1 a (nI t)))), (z8, .inl (cI, 10, .inl fb1))]) hx hb hw 4 0 rfl rfl a rfl (by omega) (Nat.le_of_ble_eq_true rfl) rfl dX5_tries_154 (fun H locs hw => ?_)
          refine lv_aload_n hx hb dX5_tries_155 rfl (lv_at hl 1 rfl) ?_
          refine lv_iload_n hx hb dX5_tries_156 rfl (lv_at hl 2 rfl) ?_
          refine lv_iload_n hx hb dX5_tries_157 rfl (lv_at hl 3 rfl) ?_
          refine lv_iconst (v := 1) hx hb dX5_tries_158 (by decide) ?_
          refine lv_iadd hx hb dX5_tries_159 ?_
          refine k_eqi (nI_1 a) ?_
          refine lv_iload_n hx hb dX5_tries_160 rfl (lv_at hl 4 rfl) ?_
          refine lv_iload hx hb dX5_tries_161 (lv_at hl 0 rfl) ?_
          refine lv_iadd hx hb dX5_tries_163 ?_
          refine k_eqi (y := nI (rl + t)) (nI_add _ _) ?_
          refine lv_iload hx hb dX5_tries_164 (lv_at hl 5 rfl) ?_
          refine lv_iload hx hb dX5_tries_166 (lv_at hl 0 rfl) ?_
          refine lv_aload_n hx hb dX5_tries_168 rfl (lv_at hl 1 rfl) ?_
          refine k_get hx hb hts i_X5 hown hw 0 9 rfl rfl (by decide) k_f27 rfl dX5_tries_169 ?_
          refine lv_iload_n hx hb dX5_tries_172 rfl (lv_at hl 3 rfl) ?_
          refine k_iald hx hb hw 2 0 rfl rfl a rfl (by omega) (Nat.le_of_ble_eq_true rfl) dX5_tries_173 ?_
          refine k_eqi (y := nI (w a)) (hfw a ha10) ?_
          refine lv_imul hx hb dX5_tries_174 ?_
          refine k_eqi (y := nI (t * w a)) (pk_mul t (w a)) ?_
          refine lv_iadd hx hb dX5_tries_175 ?_
          refine k_eqi (y := nI (sm + t * w a)) (nI_add _ _) ?_
          refine k_callv (wr := []) (k_runV (wc := [(h0, .inr (7, [.int th, .int (nI G), .ref z1, .int (nI mw), .int mg, .int up, .int ch, .int (nI N), .ref z2, .ref z3, .ref z4, .ref z5, .int sh, .int li, .int fp, .int sp, .int (nI hc), .ref z6, .int bk, .long fr, .long pa, .long lo, .long st, .long ma, .int ph, .int tr, .int bs1, .ref z7, .ref z8])), (z2, .inl (cI, 10, .inl og)), (z3, .inl (cI, 10, .inl ow)), (z4, .inl (cI, 10, .inl ol)), (z7, .inl (cI, 10, .inl (upd ft1 a (nI t)))), (z8, .inl (cI, 10, .inl fb1))]) (As := [.int p0, .int (nI (a + 1)), .int (nI (rl + t)), .int (nI (sm + t * w a))]) (rest := []) ⟨hx, hb, hml, hown, hts⟩ (ih h0 z2 z3 z4 z7 z8 H.size z1 z5 z6 th G mw mg up ch N sh li fp sp hc bk fr pa lo st ma ph tr bs1 og ow ol (upd ft1 a (nI t)) fb1 p0 (a + 1) (rl + t) (sm + t * w a) lk w bv1 (fun j => if j = a then t else tv j) (by omega) hN (by omega) hmw (by omega) hfw hfm hwb hlk hpos hok (sr_tv hft1 hft)) (cwV 4 hts gX5_tries_X5_tries rfl rfl rfl (by decide +kernel) ⟨by dsimp only; omega, by dsimp only; omega⟩) hw [0, 1, 2, 3, 4, 5] (by decide) rfl 0 rfl rfl rfl hl.1 rfl (Nat.le_of_ble_eq_true rfl) dX5_tries_176 ⟨Nat.zero_le _, Nat.zero_le _⟩) hw [0, 1, 2, 3, 4, 5] [] rfl rfl (by decide) (by decide) (fun u176 H locs w176 hw => ?_)
          obtain ⟨fb2_176, ft2_176, bs2_176⟩ := u176
          replace hw : kW D (kty cI cC cJ cG) s (va_A [(h0, .inr (7, [.int th, .int (nI G), .ref z1, .int (nI mw), .int mg, .int up, .int ch, .int (nI N), .ref z2, .ref z3, .ref z4, .ref z5, .int sh, .int li, .int fp, .int sp, .int (nI hc), .ref z6, .int bk, .long fr, .long pa, .long lo, .long st, .long ma, .int ph, .int tr, .int bs, .ref z7, .ref z8])), (z2, .inl (cI, 10, .inl og)), (z3, .inl (cI, 10, .inl ow)), (z4, .inl (cI, 10, .inl ol)), (z7, .inl (cI, 10, .inl ft)), (z8, .inl (cI, 10, .inl fb))] s.heap.size) [(h0, .inr (7, [.int th, .int (nI G), .ref z1, .int (nI mw), .int mg, .int up, .int ch, .int (nI N), .ref z2, .ref z3, .ref z4, .ref z5, .int sh, .int li, .int fp, .int sp, .int (nI hc), .ref z6, .int bk, .long fr, .long pa, .long lo, .long st, .long ma, .int ph, .int tr, .int bs2_176, .ref z7, .ref z8])), (z2, .inl (cI, 10, .inl og)), (z3, .inl (cI, 10, .inl ow)), (z4, .inl (cI, 10, .inl ol)), (z7, .inl (cI, 10, .inl ft2_176)), (z8, .inl (cI, 10, .inl fb2_176))] H locs := hw
          obtain ⟨⟨hb2, hfb2⟩, hft2⟩ := w176
          rw [tr_try ht6] at hb2 hfb2
          refine lv_iinc (v := (nI t) + (-1)) (lv' := [(6, .int ((nI t) + (-1))), (0, .ref h0), (1, .int p0), (2, .int (nI a)), (3, .int (nI rl)), (4, .int (nI sm))]) hx hb dX5_tries_179 hl (k := 0) rfl rfl (by decide) rfl (fun ls hl => ?_)
          refine lv_goto (tgt := 142) hx hb dX5_tries_182 (by decide) ?_
          exact ih142 (t, (nI t) + (-1), fb2_176, ft2_176, bs2_176) _ _ _ (show t ≤ min (min (m_cap og lk p0 a) (6 - rl)) ((mw - sm) / w a) + 1 ∧ ((nI t) + (-1)) = nI t - 1 ∧ (∃ bv1 : Nat → Nat, (∀ j, j < N → fb2_176 j = nI (bv1 j)) ∧ ct_L (ct_g (m_cap og lk p0) w k a (6 - rl) (mw - sm) sm tv) t (bs2_176, bv1) = ct_L (ct_g (m_cap og lk p0) w k a (6 - rl) (mw - sm) sm tv) (min (min (m_cap og lk p0 a) (6 - rl)) ((mw - sm) / w a) + 1) (bs, bv)) ∧ ∀ j, j < a → ft2_176 j = ft j from ⟨by omega, i_m1 t, ⟨_, hfb2, by rw [hb2, ← hT, ct_L]⟩, fun j hj => by rw [hft2 j (by omega), pk_un (by omega)]; exact hft1 j hj⟩) (show t < (t + 1) from by omega) hw (lv_sub hl [0, 1, 2, 3, 4, 5] rfl)
    · refine lv_iload hx hb dX5_tries_87 (lv_at hl 0 rfl) ?_
      refine k_eqi (y := nI (min (m_cap og lk p0 a) (6 - rl))) (m_min_f (by omega) (by omega) c84) ?_
      refine lv_goto (tgt := 96) hx hb dX5_tries_89 (by decide) ?_
      refine lv_istore (lv' := [(5, .int (nI (min (m_cap og lk p0 a) (6 - rl)))), (0, .ref h0), (1, .int p0), (2, .int (nI a)), (3, .int (nI rl)), (4, .int (nI sm))]) hx hb dX5_tries_96 hl (by decide) rfl (fun ls hl => ?_)
      refine lv_iload hx hb dX5_tries_98 (lv_at hl 0 rfl) ?_
      refine lv_aload_n hx hb dX5_tries_100 rfl (lv_at hl 1 rfl) ?_
      refine k_get hx hb hts i_X5 hown hw 0 3 rfl rfl (by decide) k_f13 rfl dX5_tries_101 ?_
      refine lv_iload hx hb dX5_tries_104 (lv_at hl 5 rfl) ?_
      refine lv_isub hx hb dX5_tries_106 ?_
      refine k_eqi (y := nI (mw - sm)) (pk_sub hsm) ?_
      refine lv_aload_n hx hb dX5_tries_107 rfl (lv_at hl 1 rfl) ?_
      refine k_get hx hb hts i_X5 hown hw 0 9 rfl rfl (by decide) k_f27 rfl dX5_tries_108 ?_
      refine lv_iload_n hx hb dX5_tries_111 rfl (lv_at hl 3 rfl) ?_
      refine k_iald hx hb hw 2 0 rfl rfl a rfl (by omega) (Nat.le_of_ble_eq_true rfl) dX5_tries_112 ?_
      refine k_eqi (y := nI (w a)) (hfw a ha10) ?_
      refine lv_idiv hx hb dX5_tries_113 (nI_ne0 hwp (by omega)) ?_
      refine k_eqi (y := nI ((mw - sm) / w a)) (pk_div (by omega) hwp (by omega)) ?_
      refine lv_icmp_ge (tgt := 122) hx hb dX5_tries_114 (by decide) (fun c114 => ?_) (fun c114 => ?_)
      · refine lv_aload_n hx hb dX5_tries_122 rfl (lv_at hl 1 rfl) ?_
        refine k_get hx hb hts i_X5 hown hw 0 3 rfl rfl (by decide) k_f13 rfl dX5_tries_123 ?_
        refine lv_iload hx hb dX5_tries_126 (lv_at hl 5 rfl) ?_
        refine lv_isub hx hb dX5_tries_128 ?_
        refine k_eqi (y := nI (mw - sm)) (pk_sub hsm) ?_
        refine lv_aload_n hx hb dX5_tries_129 rfl (lv_at hl 1 rfl) ?_
        refine k_get hx hb hts i_X5 hown hw 0 9 rfl rfl (by decide) k_f27 rfl dX5_tries_130 ?_
        refine lv_iload_n hx hb dX5_tries_133 rfl (lv_at hl 3 rfl) ?_
        refine k_iald hx hb hw 2 0 rfl rfl a rfl (by omega) (Nat.le_of_ble_eq_true rfl) dX5_tries_134 ?_
        refine k_eqi (y := nI (w a)) (hfw a ha10) ?_
        refine lv_idiv hx hb dX5_tries_135 (nI_ne0 hwp (by omega)) ?_
        refine k_eqi (y := nI (min (min (m_cap og lk p0 a) (6 - rl)) ((mw - sm) / w a))) ((pk_div (by omega) hwp (by omega)).trans (m_min_t (by omega) (by omega) c114)) ?_
        refine lv_istore (lv' := [(5, .int (nI (min (min (m_cap og lk p0 a) (6 - rl)) ((mw - sm) / w a)))), (0, .ref h0), (1, .int p0), (2, .int (nI a)), (3, .int (nI rl)), (4, .int (nI sm))]) hx hb dX5_tries_136 hl (by decide) rfl (fun ls hl => ?_)
        refine lv_iload hx hb dX5_tries_138 (lv_at hl 0 rfl) ?_
        refine lv_istore (lv' := [(6, .int (nI (min (min (m_cap og lk p0 a) (6 - rl)) ((mw - sm) / w a)))), (5, .int (nI (min (min (m_cap og lk p0 a) (6 - rl)) ((mw - sm) / w a)))), (0, .ref h0), (1, .int p0), (2, .int (nI a)), (3, .int (nI rl)), (4, .int (nI sm))]) hx hb dX5_tries_140 hl (by decide) rfl (fun ls hl => ?_)
        replace hl : lv_has _ 7 [(6, .int (nI (min (min (m_cap og lk p0 a) (6 - rl)) ((mw - sm) / w a)))), (0, .ref h0), (1, .int p0), (2, .int (nI a)), (3, .int (nI rl)), (4, .int (nI sm))] := lv_sub hl [0, 2, 3, 4, 5, 6] rfl
        replace hw : kW D (kty cI cC cJ cG) s (va_A [(h0, .inr (7, [.int th, .int (nI G), .ref z1, .int (nI mw), .int mg, .int up, .int ch, .int (nI N), .ref z2, .ref z3, .ref z4, .ref z5, .int sh, .int li, .int fp, .int sp, .int (nI hc), .ref z6, .int bk, .long fr, .long pa, .long lo, .long st, .long ma, .int ph, .int tr, .int bs, .ref z7, .ref z8])), (z2, .inl (cI, 10, .inl og)), (z3, .inl (cI, 10, .inl ow)), (z4, .inl (cI, 10, .inl ol)), (z7, .inl (cI, 10, .inl ft)), (z8, .inl (cI, 10, .inl fb))] s.heap.size) [(h0, .inr (7, [.int th, .int (nI G), .ref z1, .int (nI mw), .int mg, .int up, .int ch, .int (nI N), .ref z2, .ref z3, .ref z4, .ref z5, .int sh, .int li, .int fp, .int sp, .int (nI hc), .ref z6, .int bk, .long fr, .long pa, .long lo, .long st, .long ma, .int ph, .int tr, .int bs, .ref z7, .ref z8])), (z2, .inl (cI, 10, .inl og)), (z3, .inl (cI, 10, .inl ow)), (z4, .inl (cI, 10, .inl ol)), (z7, .inl (cI, 10, .inl ft)), (z8, .inl (cI, 10, .inl fb))] H locs := hw
        revert hl; revert hw; revert ls; revert locs; revert H
        refine k_loop (fun ((q, x, fb1, ft1, bs1) : (Nat) × (Int32) × (Nat → Int32) × (Nat → Int32) × (Int32)) => q ≤ min (min (m_cap og lk p0 a) (6 - rl)) ((mw - sm) / w a) + 1 ∧ x = nI q - 1 ∧ (∃ bv1 : Nat → Nat, (∀ j, j < N → fb1 j = nI (bv1 j)) ∧ ct_L (ct_g (m_cap og lk p0) w k a (6 - rl) (mw - sm) sm tv) q (bs1, bv1) = ct_L (ct_g (m_cap og lk p0) w k a (6 - rl) (mw - sm) sm tv) (min (min (m_cap og lk p0 a) (6 - rl)) ((mw - sm) / w a) + 1) (bs, bv)) ∧ ∀ j, j < a → ft1 j = ft j) (fun ((q, x, fb1, ft1, bs1) : (Nat) × (Int32) × (Nat → Int32) × (Nat → Int32) × (Int32)) => q) (fun ((q, x, fb1, ft1, bs1) : (Nat) × (Int32) × (Nat → Int32) × (Nat → Int32) × (Int32)) => [(h0, .inr (7, [.int th, .int (nI G), .ref z1, .int (nI mw), .int mg, .int up, .int ch, .int (nI N), .ref z2, .ref z3, .ref z4, .ref z5, .int sh, .int li, .int fp, .int sp, .int (nI hc), .ref z6, .int bk, .long fr, .long pa, .long lo, .long st, .long ma, .int ph, .int tr, .int bs1, .ref z7, .ref z8])), (z2, .inl (cI, 10, .inl og)), (z3, .inl (cI, 10, .inl ow)), (z4, .inl (cI, 10, .inl ol)), (z7, .inl (cI, 10, .inl ft1)), (z8, .inl (cI, 10, .inl fb1))]) (fun ((q, x, fb1, ft1, bs1) : (Nat) × (Int32) × (Nat → Int32) × (Nat → Int32) × (Int32)) => [(6, .int x), (0, .ref h0), (1, .int p0), (2, .int (nI a)), (3, .int (nI rl)), (4, .int (nI sm))]) (min (min (m_cap og lk p0 a) (6 - rl)) ((mw - sm) / w a) + 1, nI (min (min (m_cap og lk p0 a) (6 - rl)) ((mw - sm) / w a)), fb, ft, bs) (show (min (min (m_cap og lk p0 a) (6 - rl)) ((mw - sm) / w a) + 1) ≤ min (min (m_cap og lk p0 a) (6 - rl)) ((mw - sm) / w a) + 1 ∧ (nI (min (min (m_cap og lk p0 a) (6 - rl)) ((mw - sm) / w a))) = nI (min (min (m_cap og lk p0 a) (6 - rl)) ((mw - sm) / w a) + 1) - 1 ∧ (∃ bv1 : Nat → Nat, (∀ j, j < N → fb j = nI (bv1 j)) ∧ ct_L (ct_g (m_cap og lk p0) w k a (6 - rl) (mw - sm) sm tv) (min (min (m_cap og lk p0 a) (6 - rl)) ((mw - sm) / w a) + 1) (bs, bv1) = ct_L (ct_g (m_cap og lk p0) w k a (6 - rl) (mw - sm) sm tv) (min (min (m_cap og lk p0 a) (6 - rl)) ((mw - sm) / w a) + 1) (bs, bv)) ∧ ∀ j, j < a → ft j = ft j from ⟨Nat.le_refl _, (nI_pred _).symm, ⟨bv, hfb, rfl⟩, fun _ _ => rfl⟩) ?_
        intro ⟨q, x, fb1, ft1, bs1⟩ hI ih142 H locs ls hw hl
        replace hI : q ≤ min (min (m_cap og lk p0 a) (6 - rl)) ((mw - sm) / w a) + 1 ∧ x = nI q - 1 ∧ (∃ bv1 : Nat → Nat, (∀ j, j < N → fb1 j = nI (bv1 j)) ∧ ct_L (ct_g (m_cap og lk p0) w k a (6 - rl) (mw - sm) sm tv) q (bs1, bv1) = ct_L (ct_g (m_cap og lk p0) w k a (6 - rl) (mw - sm) sm tv) (min (min (m_cap og lk p0 a) (6 - rl)) ((mw - sm) / w a) + 1) (bs, bv)) ∧ ∀ j, j < a → ft1 j = ft j := hI
        replace hw : kW D (kty cI cC cJ cG) s (va_A [(h0, .inr (7, [.int th, .int (nI G), .ref z1, .int (nI mw), .int mg, .int up, .int ch, .int (nI N), .ref z2, .ref z3, .ref z4, .ref z5, .int sh, .int li, .int fp, .int sp, .int (nI hc), .ref z6, .int bk, .long fr, .long pa, .long lo, .long st, .long ma, .int ph, .int tr, .int bs, .ref z7, .ref z8])), (z2, .inl (cI, 10, .inl og)), (z3, .inl (cI, 10, .inl ow)), (z4, .inl (cI, 10, .inl ol)), (z7, .inl (cI, 10, .inl ft)), (z8, .inl (cI, 10, .inl fb))] s.heap.size) [(h0, .inr (7, [.int th, .int (nI G), .ref z1, .int (nI mw), .int mg, .int up, .int ch, .int (nI N), .ref z2, .ref z3, .ref z4, .ref z5, .int sh, .int li, .int fp, .int sp, .int (nI hc), .ref z6, .int bk, .long fr, .long pa, .long lo, .long st, .long ma, .int ph, .int tr, .int bs1, .ref z7, .ref z8])), (z2, .inl (cI, 10, .inl og)), (z3, .inl (cI, 10, .inl ow)), (z4, .inl (cI, 10, .inl ol)), (z7, .inl (cI, 10, .inl ft1)), (z8, .inl (cI, 10, .inl fb1))] H locs := hw
        replace hl : lv_has ls 7 [(6, .int x), (0, .ref h0), (1, .int p0), (2, .int (nI a)), (3, .int (nI rl)), (4, .int (nI sm))] := hl
        refine lv_iload hx hb dX5_tries_142 (lv_at hl 0 rfl) ?_
        refine lv_if_lt (tgt := 185) hx hb dX5_tries_144 (by decide) (fun c144 => ?_) (fun c144 => ?_)
        · have hq0 : q = 0 := by rcases Nat.eq_zero_or_pos q with z | z; exact z; (obtain ⟨t, rfl⟩ : ∃ t, q = t + 1 := ⟨q - 1, by omega⟩); (rw [hI.2.1, nI_pred] at c144); exact absurd c144 (Int32.not_lt.mpr (nI_pos' (by omega)))
          obtain ⟨-, -, ⟨bv1, hok, hT⟩, hft1⟩ := hI
          rw [hq0, ct_L, ct_g_node (m_cap og lk p0) w k a (6 - rl) (mw - sm) sm tv (by omega) (bs, bv) _ rfl] at hT
          exact k_vret (fb1, ft1, bs1) hx hb hr hlocks hw ⟨by rw [← hT]; exact ⟨rfl, hok⟩, hft1⟩ dX5_tries_185
        · obtain ⟨t, rfl⟩ : ∃ t, q = t + 1 := ⟨q - 1, by rcases Nat.eq_zero_or_pos q with z | z; (subst z; exact absurd (by rw [hI.2.1]; decide) c144); omega⟩
          obtain rfl : x = nI t := by rw [hI.2.1]; exact nI_pred t
          obtain ⟨hq, -, ⟨bv1, hok, hT⟩, hft1⟩ := hI
          have ht6 : t ≤ 6 - rl := by omega
          have htw : t * w a ≤ mw - sm := ct_mul (show t ≤ (mw - sm) / w a by omega)
          refine lv_aload_n hx hb dX5_tries_147 rfl (lv_at hl 1 rfl) ?_
          refine k_get hx hb hts i_X5 hown hw 0 27 rfl rfl (by decide) k_f52 rfl dX5_tries_148 ?_
          refine lv_iload_n hx hb dX5_tries_151 rfl (lv_at hl 3 rfl) ?_
          refine lv_iload hx hb dX5_tries_152 (lv_at hl 0 rfl) ?_
          refine k_iast (ws' := [(h0, .inr (7, [.int th, .int (nI G), .ref z1, .int (nI mw), .int mg, .int up, .int ch, .int (nI N), .ref z2, .ref z3, .ref z4, .ref z5, .int sh, .int li, .int fp, .int sp, .int (nI hc), .ref z6, .int bk, .long fr, .long pa, .long lo, .long st, .long ma, .int ph, .int tr, .int bs1, .ref z7, .ref z8])), (z2, .inl (cI, 10, .inl og)), (z3, .inl (cI, 10, .inl ow)), (z4, .inl (cI, 10, .inl ol)), (z7, .inl (cI, 10, .inl (upd ft1 a (nI t)))), (z8, .inl (cI, 10, .inl fb1))]) hx hb hw 4 0 rfl rfl a rfl (by omega) (Nat.le_of_ble_eq_true rfl) rfl dX5_tries_154 (fun H locs hw => ?_)
          refine lv_aload_n hx hb dX5_tries_155 rfl (lv_at hl 1 rfl) ?_
          refine lv_iload_n hx hb dX5_tries_156 rfl (lv_at hl 2 rfl) ?_
          refine lv_iload_n hx hb dX5_tries_157 rfl (lv_at hl 3 rfl) ?_
          refine lv_iconst (v := 1) hx hb dX5_tries_158 (by decide) ?_
          refine lv_iadd hx hb dX5_tries_159 ?_
          refine k_eqi (nI_1 a) ?_
          refine lv_iload_n hx hb dX5_tries_160 rfl (lv_at hl 4 rfl) ?_
          refine lv_iload hx hb dX5_tries_161 (lv_at hl 0 rfl) ?_
          refine lv_iadd hx hb dX5_tries_163 ?_
          refine k_eqi (y := nI (rl + t)) (nI_add _ _) ?_
          refine lv_iload hx hb dX5_tries_164 (lv_at hl 5 rfl) ?_
          refine lv_iload hx hb dX5_tries_166 (lv_at hl 0 rfl) ?_
          refine lv_aload_n hx hb dX5_tries_168 rfl (lv_at hl 1 rfl) ?_
          refine k_get hx hb hts i_X5 hown hw 0 9 rfl rfl (by decide) k_f27 rfl dX5_tries_169 ?_
          refine lv_iload_n hx hb dX5_tries_172 rfl (lv_at hl 3 rfl) ?_
          refine k_iald hx hb hw 2 0 rfl rfl a rfl (by omega) (Nat.le_of_ble_eq_true rfl) dX5_tries_173 ?_
          refine k_eqi (y := nI (w a)) (hfw a ha10) ?_
          refine lv_imul hx hb dX5_tries_174 ?_
          refine k_eqi (y := nI (t * w a)) (pk_mul t (w a)) ?_
          refine lv_iadd hx hb dX5_tries_175 ?_
          refine k_eqi (y := nI (sm + t * w a)) (nI_add _ _) ?_
          refine k_callv (wr := []) (k_runV (wc := [(h0, .inr (7, [.int th, .int (nI G), .ref z1, .int (nI mw), .int mg, .int up, .int ch, .int (nI N), .ref z2, .ref z3, .ref z4, .ref z5, .int sh, .int li, .int fp, .int sp, .int (nI hc), .ref z6, .int bk, .long fr, .long pa, .long lo, .long st, .long ma, .int ph, .int tr, .int bs1, .ref z7, .ref z8])), (z2, .inl (cI, 10, .inl og)), (z3, .inl (cI, 10, .inl ow)), (z4, .inl (cI, 10, .inl ol)), (z7, .inl (cI, 10, .inl (upd ft1 a (nI t)))), (z8, .inl (cI, 10, .inl fb1))]) (As := [.int p0, .int (nI (a + 1)), .int (nI (rl + t)), .int (nI (sm + t * w a))]) (rest := []) ⟨hx, hb, hml, hown, hts⟩ (ih h0 z2 z3 z4 z7 z8 H.size z1 z5 z6 th G mw mg up ch N sh li fp sp hc bk fr pa lo st ma ph tr bs1 og ow ol (upd ft1 a (nI t)) fb1 p0 (a + 1) (rl + t) (sm + t * w a) lk w bv1 (fun j => if j = a then t else tv j) (by omega) hN (by omega) hmw (by omega) hfw hfm hwb hlk hpos hok (sr_tv hft1 hft)) (cwV 4 hts gX5_tries_X5_tries rfl rfl rfl (by decide +kernel) ⟨by dsimp only; omega, by dsimp only; omega⟩) hw [0, 1, 2, 3, 4, 5] (by decide) rfl 0 rfl rfl rfl hl.1 rfl (Nat.le_of_ble_eq_true rfl) dX5_tries_176 ⟨Nat.zero_le _, Nat.zero_le _⟩) hw [0, 1, 2, 3, 4, 5] [] rfl rfl (by decide) (by decide) (fun u176 H locs w176 hw => ?_)
          obtain ⟨fb2_176, ft2_176, bs2_176⟩ := u176
          replace hw : kW D (kty cI cC cJ cG) s (va_A [(h0, .inr (7, [.int th, .int (nI G), .ref z1, .int (nI mw), .int mg, .int up, .int ch, .int (nI N), .ref z2, .ref z3, .ref z4, .ref z5, .int sh, .int li, .int fp, .int sp, .int (nI hc), .ref z6, .int bk, .long fr, .long pa, .long lo, .long st, .long ma, .int ph, .int tr, .int bs, .ref z7, .ref z8])), (z2, .inl (cI, 10, .inl og)), (z3, .inl (cI, 10, .inl ow)), (z4, .inl (cI, 10, .inl ol)), (z7, .inl (cI, 10, .inl ft)), (z8, .inl (cI, 10, .inl fb))] s.heap.size) [(h0, .inr (7, [.int th, .int (nI G), .ref z1, .int (nI mw), .int mg, .int up, .int ch, .int (nI N), .ref z2, .ref z3, .ref z4, .ref z5, .int sh, .int li, .int fp, .int sp, .int (nI hc), .ref z6, .int bk, .long fr, .long pa, .long lo, .long st, .long ma, .int ph, .int tr, .int bs2_176, .ref z7, .ref z8])), (z2, .inl (cI, 10, .inl og)), (z3, .inl (cI, 10, .inl ow)), (z4, .inl (cI, 10, .inl ol)), (z7, .inl (cI, 10, .inl ft2_176)), (z8, .inl (cI, 10, .inl fb2_176))] H locs := hw
          obtain ⟨⟨hb2, hfb2⟩, hft2⟩ := w176
          rw [tr_try ht6] at hb2 hfb2
          refine lv_iinc (v := (nI t) + (-1)) (lv' := [(6, .int ((nI t) + (-1))), (0, .ref h0), (1, .int p0), (2, .int (nI a)), (3, .int (nI rl)), (4, .int (nI sm))]) hx hb dX5_tries_179 hl (k := 0) rfl rfl (by decide) rfl (fun ls hl => ?_)
          refine lv_goto (tgt := 142) hx hb dX5_tries_182 (by decide) ?_
          exact ih142 (t, (nI t) + (-1), fb2_176, ft2_176, bs2_176) _ _ _ (show t ≤ min (min (m_cap og lk p0 a) (6 - rl)) ((mw - sm) / w a) + 1 ∧ ((nI t) + (-1)) = nI t - 1 ∧ (∃ bv1 : Nat → Nat, (∀ j, j < N → fb2_176 j = nI (bv1 j)) ∧ ct_L (ct_g (m_cap og lk p0) w k a (6 - rl) (mw - sm) sm tv) t (bs2_176, bv1) = ct_L (ct_g (m_cap og lk p0) w k a (6 - rl) (mw - sm) sm tv) (min (min (m_cap og lk p0 a) (6 - rl)) ((mw - sm) / w a) + 1) (bs, bv)) ∧ ∀ j, j < a → ft2_176 j = ft j from ⟨by omega, i_m1 t, ⟨_, hfb2, by rw [hb2, ← hT, ct_L]⟩, fun j hj => by rw [hft2 j (by omega), pk_un (by omega)]; exact hft1 j hj⟩) (show t < (t + 1) from by omega) hw (lv_sub hl [0, 1, 2, 3, 4, 5] rfl)
      · refine lv_iload hx hb dX5_tries_117 (lv_at hl 0 rfl) ?_
        refine k_eqi (y := nI (min (min (m_cap og lk p0 a) (6 - rl)) ((mw - sm) / w a))) (m_min_f (by omega) (by omega) c114) ?_
        refine lv_goto (tgt := 136) hx hb dX5_tries_119 (by decide) ?_
        refine lv_istore (lv' := [(5, .int (nI (min (min (m_cap og lk p0 a) (6 - rl)) ((mw - sm) / w a)))), (0, .ref h0), (1, .int p0), (2, .int (nI a)), (3, .int (nI rl)), (4, .int (nI sm))]) hx hb dX5_tries_136 hl (by decide) rfl (fun ls hl => ?_)
        refine lv_iload hx hb dX5_tries_138 (lv_at hl 0 rfl) ?_
        refine lv_istore (lv' := [(6, .int (nI (min (min (m_cap og lk p0 a) (6 - rl)) ((mw - sm) / w a)))), (5, .int (nI (min (min (m_cap og lk p0 a) (6 - rl)) ((mw - sm) / w a)))), (0, .ref h0), (1, .int p0), (2, .int (nI a)), (3, .int (nI rl)), (4, .int (nI sm))]) hx hb dX5_tries_140 hl (by decide) rfl (fun ls hl => ?_)
        replace hl : lv_has _ 7 [(6, .int (nI (min (min (m_cap og lk p0 a) (6 - rl)) ((mw - sm) / w a)))), (0, .ref h0), (1, .int p0), (2, .int (nI a)), (3, .int (nI rl)), (4, .int (nI sm))] := lv_sub hl [0, 2, 3, 4, 5, 6] rfl
        replace hw : kW D (kty cI cC cJ cG) s (va_A [(h0, .inr (7, [.int th, .int (nI G), .ref z1, .int (nI mw), .int mg, .int up, .int ch, .int (nI N), .ref z2, .ref z3, .ref z4, .ref z5, .int sh, .int li, .int fp, .int sp, .int (nI hc), .ref z6, .int bk, .long fr, .long pa, .long lo, .long st, .long ma, .int ph, .int tr, .int bs, .ref z7, .ref z8])), (z2, .inl (cI, 10, .inl og)), (z3, .inl (cI, 10, .inl ow)), (z4, .inl (cI, 10, .inl ol)), (z7, .inl (cI, 10, .inl ft)), (z8, .inl (cI, 10, .inl fb))] s.heap.size) [(h0, .inr (7, [.int th, .int (nI G), .ref z1, .int (nI mw), .int mg, .int up, .int ch, .int (nI N), .ref z2, .ref z3, .ref z4, .ref z5, .int sh, .int li, .int fp, .int sp, .int (nI hc), .ref z6, .int bk, .long fr, .long pa, .long lo, .long st, .long ma, .int ph, .int tr, .int bs, .ref z7, .ref z8])), (z2, .inl (cI, 10, .inl og)), (z3, .inl (cI, 10, .inl ow)), (z4, .inl (cI, 10, .inl ol)), (z7, .inl (cI, 10, .inl ft)), (z8, .inl (cI, 10, .inl fb))] H locs := hw
        revert hl; revert hw; revert ls; revert locs; revert H
        refine k_loop (fun ((q, x, fb1, ft1, bs1) : (Nat) × (Int32) × (Nat → Int32) × (Nat → Int32) × (Int32)) => q ≤ min (min (m_cap og lk p0 a) (6 - rl)) ((mw - sm) / w a) + 1 ∧ x = nI q - 1 ∧ (∃ bv1 : Nat → Nat, (∀ j, j < N → fb1 j = nI (bv1 j)) ∧ ct_L (ct_g (m_cap og lk p0) w k a (6 - rl) (mw - sm) sm tv) q (bs1, bv1) = ct_L (ct_g (m_cap og lk p0) w k a (6 - rl) (mw - sm) sm tv) (min (min (m_cap og lk p0 a) (6 - rl)) ((mw - sm) / w a) + 1) (bs, bv)) ∧ ∀ j, j < a → ft1 j = ft j) (fun ((q, x, fb1, ft1, bs1) : (Nat) × (Int32) × (Nat → Int32) × (Nat → Int32) × (Int32)) => q) (fun ((q, x, fb1, ft1, bs1) : (Nat) × (Int32) × (Nat → Int32) × (Nat → Int32) × (Int32)) => [(h0, .inr (7, [.int th, .int (nI G), .ref z1, .int (nI mw), .int mg, .int up, .int ch, .int (nI N), .ref z2, .ref z3, .ref z4, .ref z5, .int sh, .int li, .int fp, .int sp, .int (nI hc), .ref z6, .int bk, .long fr, .long pa, .long lo, .long st, .long ma, .int ph, .int tr, .int bs1, .ref z7, .ref z8])), (z2, .inl (cI, 10, .inl og)), (z3, .inl (cI, 10, .inl ow)), (z4, .inl (cI, 10, .inl ol)), (z7, .inl (cI, 10, .inl ft1)), (z8, .inl (cI, 10, .inl fb1))]) (fun ((q, x, fb1, ft1, bs1) : (Nat) × (Int32) × (Nat → Int32) × (Nat → Int32) × (Int32)) => [(6, .int x), (0, .ref h0), (1, .int p0), (2, .int (nI a)), (3, .int (nI rl)), (4, .int (nI sm))]) (min (min (m_cap og lk p0 a) (6 - rl)) ((mw - sm) / w a) + 1, nI (min (min (m_cap og lk p0 a) (6 - rl)) ((mw - sm) / w a)), fb, ft, bs) (show (min (min (m_cap og lk p0 a) (6 - rl)) ((mw - sm) / w a) + 1) ≤ min (min (m_cap og lk p0 a) (6 - rl)) ((mw - sm) / w a) + 1 ∧ (nI (min (min (m_cap og lk p0 a) (6 - rl)) ((mw - sm) / w a))) = nI (min (min (m_cap og lk p0 a) (6 - rl)) ((mw - sm) / w a) + 1) - 1 ∧ (∃ bv1 : Nat → Nat, (∀ j, j < N → fb j = nI (bv1 j)) ∧ ct_L (ct_g (m_cap og lk p0) w k a (6 - rl) (mw - sm) sm tv) (min (min (m_cap og lk p0 a) (6 - rl)) ((mw - sm) / w a) + 1) (bs, bv1) = ct_L (ct_g (m_cap og lk p0) w k a (6 - rl) (mw - sm) sm tv) (min (min (m_cap og lk p0 a) (6 - rl)) ((mw - sm) / w a) + 1) (bs, bv)) ∧ ∀ j, j < a → ft j = ft j from ⟨Nat.le_refl _, (nI_pred _).symm, ⟨bv, hfb, rfl⟩, fun _ _ => rfl⟩) ?_
        intro ⟨q, x, fb1, ft1, bs1⟩ hI ih142 H locs ls hw hl
        replace hI : q ≤ min (min (m_cap og lk p0 a) (6 - rl)) ((mw - sm) / w a) + 1 ∧ x = nI q - 1 ∧ (∃ bv1 : Nat → Nat, (∀ j, j < N → fb1 j = nI (bv1 j)) ∧ ct_L (ct_g (m_cap og lk p0) w k a (6 - rl) (mw - sm) sm tv) q (bs1, bv1) = ct_L (ct_g (m_cap og lk p0) w k a (6 - rl) (mw - sm) sm tv) (min (min (m_cap og lk p0 a) (6 - rl)) ((mw - sm) / w a) + 1) (bs, bv)) ∧ ∀ j, j < a → ft1 j = ft j := hI
        replace hw : kW D (kty cI cC cJ cG) s (va_A [(h0, .inr (7, [.int th, .int (nI G), .ref z1, .int (nI mw), .int mg, .int up, .int ch, .int (nI N), .ref z2, .ref z3, .ref z4, .ref z5, .int sh, .int li, .int fp, .int sp, .int (nI hc), .ref z6, .int bk, .long fr, .long pa, .long lo, .long st, .long ma, .int ph, .int tr, .int bs, .ref z7, .ref z8])), (z2, .inl (cI, 10, .inl og)), (z3, .inl (cI, 10, .inl ow)), (z4, .inl (cI, 10, .inl ol)), (z7, .inl (cI, 10, .inl ft)), (z8, .inl (cI, 10, .inl fb))] s.heap.size) [(h0, .inr (7, [.int th, .int (nI G), .ref z1, .int (nI mw), .int mg, .int up, .int ch, .int (nI N), .ref z2, .ref z3, .ref z4, .ref z5, .int sh, .int li, .int fp, .int sp, .int (nI hc), .ref z6, .int bk, .long fr, .long pa, .long lo, .long st, .long ma, .int ph, .int tr, .int bs1, .ref z7, .ref z8])), (z2, .inl (cI, 10, .inl og)), (z3, .inl (cI, 10, .inl ow)), (z4, .inl (cI, 10, .inl ol)), (z7, .inl (cI, 10, .inl ft1)), (z8, .inl (cI, 10, .inl fb1))] H locs := hw
        replace hl : lv_has ls 7 [(6, .int x), (0, .ref h0), (1, .int p0), (2, .int (nI a)), (3, .int (nI rl)), (4, .int (nI sm))] := hl
        refine lv_iload hx hb dX5_tries_142 (lv_at hl 0 rfl) ?_
        refine lv_if_lt (tgt := 185) hx hb dX5_tries_144 (by decide) (fun c144 => ?_) (fun c144 => ?_)
        · have hq0 : q = 0 := by rcases Nat.eq_zero_or_pos q with z | z; exact z; (obtain ⟨t, rfl⟩ : ∃ t, q = t + 1 := ⟨q - 1, by omega⟩); (rw [hI.2.1, nI_pred] at c144); exact absurd c144 (Int32.not_lt.mpr (nI_pos' (by omega)))
          obtain ⟨-, -, ⟨bv1, hok, hT⟩, hft1⟩ := hI
          rw [hq0, ct_L, ct_g_node (m_cap og lk p0) w k a (6 - rl) (mw - sm) sm tv (by omega) (bs, bv) _ rfl] at hT
          exact k_vret (fb1, ft1, bs1) hx hb hr hlocks hw ⟨by rw [← hT]; exact ⟨rfl, hok⟩, hft1⟩ dX5_tries_185
        · obtain ⟨t, rfl⟩ : ∃ t, q = t + 1 := ⟨q - 1, by rcases Nat.eq_zero_or_pos q with z | z; (subst z; exact absurd (by rw [hI.2.1]; decide) c144); omega⟩
          obtain rfl : x = nI t := by rw [hI.2.1]; exact nI_pred t
          obtain ⟨hq, -, ⟨bv1, hok, hT⟩, hft1⟩ := hI
          have ht6 : t ≤ 6 - rl := by omega
          have htw : t * w a ≤ mw - sm := ct_mul (show t ≤ (mw - sm) / w a by omega)
          refine lv_aload_n hx hb dX5_tries_147 rfl (lv_at hl 1 rfl) ?_
          refine k_get hx hb hts i_X5 hown hw 0 27 rfl rfl (by decide) k_f52 rfl dX5_tries_148 ?_
          refine lv_iload_n hx hb dX5_tries_151 rfl (lv_at hl 3 rfl) ?_
          refine lv_iload hx hb dX5_tries_152 (lv_at hl 0 rfl) ?_
          refine k_iast (ws' := [(h0, .inr (7, [.int th, .int (nI G), .ref z1, .int (nI mw), .int mg, .int up, .int ch, .int (nI N), .ref z2, .ref z3, .ref z4, .ref z5, .int sh, .int li, .int fp, .int sp, .int (nI hc), .ref z6, .int bk, .long fr, .long pa, .long lo, .long st, .long ma, .int ph, .int tr, .int bs1, .ref z7, .ref z8])), (z2, .inl (cI, 10, .inl og)), (z3, .inl (cI, 10, .inl ow)), (z4, .inl (cI, 10, .inl ol)), (z7, .inl (cI, 10, .inl (upd ft1 a (nI t)))), (z8, .inl (cI, 10, .inl fb1))]) hx hb hw 4 0 rfl rfl a rfl (by omega) (Nat.le_of_ble_eq_true rfl) rfl dX5_tries_154 (fun H locs hw => ?_)
          refine lv_aload_n hx hb dX5_tries_155 rfl (lv_at hl 1 rfl) ?_
          refine lv_iload_n hx hb dX5_tries_156 rfl (lv_at hl 2 rfl) ?_
          refine lv_iload_n hx hb dX5_tries_157 rfl (lv_at hl 3 rfl) ?_
          refine lv_iconst (v := 1) hx hb dX5_tries_158 (by decide) ?_
          refine lv_iadd hx hb dX5_tries_159 ?_
          refine k_eqi (nI_1 a) ?_
          refine lv_iload_n hx hb dX5_tries_160 rfl (lv_at hl 4 rfl) ?_
          refine lv_iload hx hb dX5_tries_161 (lv_at hl 0 rfl) ?_
          refine lv_iadd hx hb dX5_tries_163 ?_
          refine k_eqi (y := nI (rl + t)) (nI_add _ _) ?_
          refine lv_iload hx hb dX5_tries_164 (lv_at hl 5 rfl) ?_
          refine lv_iload hx hb dX5_tries_166 (lv_at hl 0 rfl) ?_
          refine lv_aload_n hx hb dX5_tries_168 rfl (lv_at hl 1 rfl) ?_
          refine k_get hx hb hts i_X5 hown hw 0 9 rfl rfl (by decide) k_f27 rfl dX5_tries_169 ?_
          refine lv_iload_n hx hb dX5_tries_172 rfl (lv_at hl 3 rfl) ?_
          refine k_iald hx hb hw 2 0 rfl rfl a rfl (by omega) (Nat.le_of_ble_eq_true rfl) dX5_tries_173 ?_
          refine k_eqi (y := nI (w a)) (hfw a ha10) ?_
          refine lv_imul hx hb dX5_tries_174 ?_
          refine k_eqi (y := nI (t * w a)) (pk_mul t (w a)) ?_
          refine lv_iadd hx hb dX5_tries_175 ?_
          refine k_eqi (y := nI (sm + t * w a)) (nI_add _ _) ?_
          refine k_callv (wr := []) (k_runV (wc := [(h0, .inr (7, [.int th, .int (nI G), .ref z1, .int (nI mw), .int mg, .int up, .int ch, .int (nI N), .ref z2, .ref z3, .ref z4, .ref z5, .int sh, .int li, .int fp, .int sp, .int (nI hc), .ref z6, .int bk, .long fr, .long pa, .long lo, .long st, .long ma, .int ph, .int tr, .int bs1, .ref z7, .ref z8])), (z2, .inl (cI, 10, .inl og)), (z3, .inl (cI, 10, .inl ow)), (z4, .inl (cI, 10, .inl ol)), (z7, .inl (cI, 10, .inl (upd ft1 a (nI t)))), (z8, .inl (cI, 10, .inl fb1))]) (As := [.int p0, .int (nI (a + 1)), .int (nI (rl + t)), .int (nI (sm + t * w a))]) (rest := []) ⟨hx, hb, hml, hown, hts⟩ (ih h0 z2 z3 z4 z7 z8 H.size z1 z5 z6 th G mw mg up ch N sh li fp sp hc bk fr pa lo st ma ph tr bs1 og ow ol (upd ft1 a (nI t)) fb1 p0 (a + 1) (rl + t) (sm + t * w a) lk w bv1 (fun j => if j = a then t else tv j) (by omega) hN (by omega) hmw (by omega) hfw hfm hwb hlk hpos hok (sr_tv hft1 hft)) (cwV 4 hts gX5_tries_X5_tries rfl rfl rfl (by decide +kernel) ⟨by dsimp only; omega, by dsimp only; omega⟩) hw [0, 1, 2, 3, 4, 5] (by decide) rfl 0 rfl rfl rfl hl.1 rfl (Nat.le_of_ble_eq_true rfl) dX5_tries_176 ⟨Nat.zero_le _, Nat.zero_le _⟩) hw [0, 1, 2, 3, 4, 5] [] rfl rfl (by decide) (by decide) (fun u176 H locs w176 hw => ?_)
          obtain ⟨fb2_176, ft2_176, bs2_176⟩ := u176
          replace hw : kW D (kty cI cC cJ cG) s (va_A [(h0, .inr (7, [.int th, .int (nI G), .ref z1, .int (nI mw), .int mg, .int up, .int ch, .int (nI N), .ref z2, .ref z3, .ref z4, .ref z5, .int sh, .int li, .int fp, .int sp, .int (nI hc), .ref z6, .int bk, .long fr, .long pa, .long lo, .long st, .long ma, .int ph, .int tr, .int bs, .ref z7, .ref z8])), (z2, .inl (cI, 10, .inl og)), (z3, .inl (cI, 10, .inl ow)), (z4, .inl (cI, 10, .inl ol)), (z7, .inl (cI, 10, .inl ft)), (z8, .inl (cI, 10, .inl fb))] s.heap.size) [(h0, .inr (7, [.int th, .int (nI G), .ref z1, .int (nI mw), .int mg, .int up, .int ch, .int (nI N), .ref z2, .ref z3, .ref z4, .ref z5, .int sh, .int li, .int fp, .int sp, .int (nI hc), .ref z6, .int bk, .long fr, .long pa, .long lo, .long st, .long ma, .int ph, .int tr, .int bs2_176, .ref z7, .ref z8])), (z2, .inl (cI, 10, .inl og)), (z3, .inl (cI, 10, .inl ow)), (z4, .inl (cI, 10, .inl ol)), (z7, .inl (cI, 10, .inl ft2_176)), (z8, .inl (cI, 10, .inl fb2_176))] H locs := hw
          obtain ⟨⟨hb2, hfb2⟩, hft2⟩ := w176
          rw [tr_try ht6] at hb2 hfb2
          refine lv_iinc (v := (nI t) + (-1)) (lv' := [(6, .int ((nI t) + (-1))), (0, .ref h0), (1, .int p0), (2, .int (nI a)), (3, .int (nI rl)), (4, .int (nI sm))]) hx hb dX5_tries_179 hl (k := 0) rfl rfl (by decide) rfl (fun ls hl => ?_)
          refine lv_goto (tgt := 142) hx hb dX5_tries_182 (by decide) ?_
          exact ih142 (t, (nI t) + (-1), fb2_176, ft2_176, bs2_176) _ _ _ (show t ≤ min (min (m_cap og lk p0 a) (6 - rl)) ((mw - sm) / w a) + 1 ∧ ((nI t) + (-1)) = nI t - 1 ∧ (∃ bv1 : Nat → Nat, (∀ j, j < N → fb2_176 j = nI (bv1 j)) ∧ ct_L (ct_g (m_cap og lk p0) w k a (6 - rl) (mw - sm) sm tv) t (bs2_176, bv1) = ct_L (ct_g (m_cap og lk p0) w k a (6 - rl) (mw - sm) sm tv) (min (min (m_cap og lk p0 a) (6 - rl)) ((mw - sm) / w a) + 1) (bs, bv)) ∧ ∀ j, j < a → ft2_176 j = ft j from ⟨by omega, i_m1 t, ⟨_, hfb2, by rw [hb2, ← hT, ct_L]⟩, fun j hj => by rw [hft2 j (by omega), pk_un (by omega)]; exact hft1 j hj⟩) (show t < (t + 1) from by omega) hw (lv_sub hl [0, 1, 2, 3, 4, 5] rfl)

theorem c_X5_tries (l : Launch) (D : va_G) (cI cC cJ cG : ClassId) : ∀ k, S_tries l D cI cC cJ cG k
  | 0 => c_X5_tries_0 l D cI cC cJ cG
  | k + 1 => c_X5_tries_s l D cI cC cJ cG k (c_X5_tries l D cI cC cJ cG k)
