/-! the law's read of its script: what it answers doesn't matter -/
def kPs (D : va_G) (ty : List (ClassId × FieldType)) (b L : Nat) (xs : Nat → Int32) (As : List Value) (sz : Nat) : Array Value → State → Prop :=
  va_Pc As (fun U => U.heap.size = sz ∧ va_K D vwCl ty U ∧ va_X b L xs U U.heap ∧ b < U.heap.size)
section KS
variable {p : Program} {l : Launch} {e : Env} {R : Room} {s : State} {m : MethodId} {args : Array Value} {below : List Frame} {meth : Method} {c : Code} {H : Heap} {locs : List Loc} {cells slots : Nat} {Q : State → Prop} {cc : ByteArray} {pc : Nat} {ls : Array Slot} {rest : List Value} {D : va_G} {ty : List (ClassId × FieldType)} {A : Nat → Prop} {ws : va_W} {b L : Nat} {xs : Nat → Int32}
theorem kPs_blind {As : List Value} {sz : Nat} : FrameBlind (kPs D ty b L xs As sz) := by
  intro a U g mk q
  obtain ⟨q0, q1, qK, qX, qb⟩ := q
  exact ⟨q0, q1, va_K.moved (u := U) (U := U.calling g mk a) (Vm.Alike.refl U.vm) qK, va_X.moved (u := U) (U := U.calling g mk a) (Vm.Alike.refl U.vm) qX, qb⟩
theorem k_ofS {y : MethodName} {wm wm' : List Cond} {rm : Room} {As : List Value} {sz : Nat} {Qc : Array Value → State → Outcome → State → Prop} {mc ms : Nat} {free : Addr → Prop} {maxL : Nat} {ret : Option FieldType} {lv : List (Nat × Value)}
    (hy : plainName y.cls = true) (hwm : wm = Cond.code y cc maxL ret :: wm') (hn : (lg_sl As).length ≤ maxL) (hlv : lv_args 0 As = lv)
    (body : ∀ (p : Program) (e : Env) (s : State) (m : MethodId) (args : Array Value) (below : List Frame) (meth : Method) (c : Code) (ls : Array Slot) (H : Heap) (locs : List Loc), kE p s m args meth c y.cls cc maxL ret wm → sz = s.heap.size → va_X b L xs s s.heap → b < s.heap.size → kW D ty s (va_A [] s.heap.size) [] H locs → lv_has ls maxL lv →
      W p l e rm s m args below meth c H locs 0 0 (MQ below Qc args s mc ms free) (F0 m 0 ls [])) : Met l y wm rm (kPs D ty b L xs As sz) Qc mc ms free := by
  refine Met.ofW (cc := cc) (maxL := maxL) (ret := ret) hy hwm ?_
  intro p e s m args below meth c s₁ B hml hv
  obtain ⟨rfl, hsz, hK, hX, hbl⟩ := hv
  have hl := lv_entry As (n := maxL) hn
  rw [lg_entry_eq]
  rw [hlv] at hl
  exact body p e s m _ below meth c _ s.heap [] ⟨B.exec, B.bytes, B.returns, hml, findClass_of_methodNamed B.named, atoms_spec (ws := wm) B.pre, B.notSynchronized⟩ hsz.symm hX hbl ⟨fun k q h => absurd h (by simp), ⟨fun i j p q h => absurd h (by simp), fun k q h => absurd h (by simp)⟩, va_S.rf, hK, fun q h => Or.inr h⟩ hl
variable {Ts wm : List Cond} {bytes : ByteArray} {nL maxL index n mc ms : Nat} {own : String} {y : MethodName} {ret : Option FieldType} {rm : Room} {As : List Value} {st0 : List Value}
theorem k_srunS {Qc : Array Value → State → Outcome → State → Prop} {free : Addr → Prop} (hS : CallFix p m c cc nL s args Ts own) (hM : Met l y wm rm (kPs D ty b L xs As H.size) Qc mc ms free) (cw : CallB R s args own index y bytes maxL ret wm rm mc ms n ∧ (Cond.static y).before args s = true) (hX : va_X b L xs s s.heap) (hbl : b < s.heap.size) (hbA : ¬ A b) (hw : kW D ty s A ws H locs)
    (hn : As.length = n) (hsize : ls.size = nL) (hst : st0 = As.reverse ++ rest) (hrest : (rest.map fun v => v.category).sum ≤ 8) (hdg : decode cc pc = .ok (.invokestatic index, 3)) (hf : cells + mc ≤ R.cells ∧ slots + ms ≤ R.slots) :
    va_Run p l e R s m args below meth c H locs cells slots mc ms (F0 m pc ls st0) rest (Qc As.toArray) free :=
  va_runS hS hM cw ⟨kPs_blind, fun U hU hW => ⟨rfl, by rw [hU], va_K.moved hW.alike hw.2.2.2.1, va_X.moved hW.alike (by rw [hU]; exact hX.kept (hw.2.2.1.2.1 b hbl hbA)), by rw [hU]; exact Nat.lt_of_lt_of_le hbl hw.2.2.1.1⟩⟩ rfl hn hsize hst (lv_room hrest) hdg hf
end KS
set_option maxRecDepth 100000 in
theorem c_L_cell (l : Launch) (D : va_G) (cI cC cJ cG : ClassId) (b L q : Nat) (sz : Nat) (xs : Nat → Int32) (hL : L ≤ 260) (hq : q ≤ 1000) : Met l yL_cell wsL_cell ({ frames := 0, cells := 0, slots := 0, locals := 0 }) (kPs D (kty cI cC cJ cG) b L xs [.ref b, .int (nI q)] sz) (va_Qi (fun (_ : Int32) (_ : Unit) => True) (kB D (kty cI cC cJ cG) [] sz (fun (_ : Unit) => [])) (va_A [] sz)) 0 0 (va_A [] sz) := by
  refine k_ofS (cc := cL_cell) (maxL := 2) (ret := (some .int)) (lv := [(0, .ref b), (1, .int (nI q))]) (by decide) rfl (Nat.le_of_ble_eq_true rfl) rfl ?_
  intro p e s m args below meth c ls H locs hE hsz hX hbl hw hl
  obtain ⟨hx, hb, hr, hml, hown, hts, hlocks⟩ := hE
  subst hsz
  have hown : s.vm.findClass RL = some m.cls := hown
  have k_c7 : (Cond.constant RL 7 40503).before args s = true := hts _ (by decide +kernel)
  have hbA : ¬ va_A [] s.heap.size b := fun h => h.elim (fun ⟨k, e, h⟩ => absurd h (by simp)) (fun h => absurd h (Nat.not_le.mpr hbl))
  refine lv_iload_n hx hb dL_cell_0 rfl (lv_at hl 1 rfl) ?_
  refine lv_aload_n hx hb dL_cell_1 rfl (lv_at hl 0 rfl) ?_
  refine va_slen hx hb hX hbl hbA hw.2.2.1 dL_cell_2 ?_
  refine lv_icmp_ge (tgt := 12) hx hb dL_cell_3 (by decide) (fun c3 => ?_) (fun c3 => ?_)
  · refine lv_ldc hx hb hown k_c7 dL_cell_12 ?_
    refine lv_iload_n hx hb dL_cell_14 rfl (lv_at hl 1 rfl) ?_
    refine lv_imul hx hb dL_cell_15 ?_
    refine lv_sipush (v := 1249) hx hb dL_cell_16 (by decide) ?_
    refine lv_iadd hx hb dL_cell_19 ?_
    exact k_iret () hx hb hr hlocks hw trivial dL_cell_20
  · have hqL : q < L := k_lt (a := q) (b := L) c3 (by omega) (by omega)
    refine lv_aload_n hx hb dL_cell_6 rfl (lv_at hl 0 rfl) ?_
    refine lv_iload_n hx hb dL_cell_7 rfl (lv_at hl 1 rfl) ?_
    refine va_sld hx hb hX hbl hbA hw.2.2.1 (pk_in q L hqL) dL_cell_8 ?_
    refine lv_goto (tgt := 20) hx hb dL_cell_9 (by decide) ?_
    exact k_iret () hx hb hr hlocks hw trivial dL_cell_20
/-! the law's three grades -/
def LG (g : Nat) (u : ST) : Prop := All u v_0 ∧ InvB u ∧ s_hc u = 0 ∧ s_gc u = g ∧ g ≤ 3 ∧ ∀ i, i < g → (40 : Int) + 50 * (i : Int) ≤ (s_we u i).toInt ∧ (s_we u i).toInt < 90 + 50 * (i : Int)
theorem lg_0 : LG 0 u_0 := ⟨lk_all, by show Int64.toInt32 (0 - 0 - 0) = 0; decide, rfl, rfl, Nat.zero_le _, fun i hi => absurd hi (Nat.not_lt_zero i)⟩
theorem f_tk_no {we : Nat → Int32} {w : Int32} : ∀ k, (∀ i, i < k → we i ≠ w) → f_tk we w k = false
  | 0, _ => rfl
  | k + 1, h => by rw [f_tk, f_tk_no k (fun i hi => h i (by omega)), Bool.false_or]; exact beq_false_of_ne (h k (by omega))
theorem lg_k {g : Nat} {u : ST} (h : LG g u) (hg : g < 3) {j : Nat} (hj : j < 50) : k_addGrade u (nI (40 + 50 * g + j)) = 0 := by
  obtain ⟨-, -, -, hgc, -, hwe⟩ := h
  have ep : (nI (40 + 50 * g + j)).toInt = ((40 + 50 * g + j : Nat) : Int) := nI_toInt (by omega)
  have hn : f_tk (s_we u) (nI (40 + 50 * g + j)) (s_gc u) = false := f_tk_no _ (fun i hi e => by
    have := hwe i (by omega)
    rw [e, ep] at this
    omega)
  refine (if_neg (fun z => z.elim (fun q => q ⟨nI_le (a := 40) (by omega) (by omega), nI_le (b := 200) (by omega) (by decide)⟩) (fun q => ?_))).trans (if_neg (by omega))
  rw [hn] at q
  exact absurd q Bool.false_ne_true
theorem lg_n {g : Nat} {u : ST} (h : LG g u) (hg : g < 3) {j : Nat} (hj : j < 50) : LG (g + 1) (n_addGrade u (nI (40 + 50 * g + j))) := by
  have hk := lg_k h hg hj
  obtain ⟨⟨hi, hv, hd⟩, hB, hh, hgc, -, hwe⟩ := h
  have ep : (nI (40 + 50 * g + j)).toInt = ((40 + 50 * g + j : Nat) : Int) := nI_toInt (by omega)
  refine ⟨⟨kp_addGrade hi hk, ?_, ?_⟩, ?_, hh, ?_, by omega, fun i hi => ?_⟩
  · dsimp only [InvV, n_addGrade, s_hc, s_bk] at hv ⊢; exact hv
  · dsimp only [KD, n_addGrade, s_kd] at hd ⊢; exact hd
  · dsimp only [InvB, n_addGrade, s_fr, s_pa, s_lo, s_bk] at hB ⊢; exact hB
  · show s_gc u + 1 = g + 1
    rw [hgc]
  · show (40 : Int) + 50 * (i : Int) ≤ (upd (s_we u) (s_gc u) (nI (40 + 50 * g + j)) i).toInt ∧ (upd (s_we u) (s_gc u) (nI (40 + 50 * g + j)) i).toInt < 90 + 50 * (i : Int)
    by_cases c : i = s_gc u
    · rw [c, pk_us, ep]; omega
    · rw [pk_un c]; exact hwe i (by omega)
theorem lg_LA {u : ST} (h : LG 3 u) : LA u v_0 y_0 := by
  obtain ⟨ha, hB, hh, hgc, -, hwe⟩ := h
  have h0 := hwe 0 (by omega)
  have h1 := hwe 1 (by omega)
  have h2 := hwe 2 (by omega)
  exact ⟨ha, hB, ⟨hgc, by rw [fa_lt]; omega, by rw [fa_lt]; omega⟩, Or.inl hh⟩
