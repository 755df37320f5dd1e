/-! what the law's walk begins with, out of the tables and the start -/
set_option maxRecDepth 100000 in
theorem lk_ng : ∀ w ∈ kNG, w ∈ lw_tbl := sub_r _ [218, 220, 222, 473] rfl
set_option maxRecDepth 100000 in
theorem lk_ne : ∀ w ∈ kNe, w ∈ lw_tbl := sub_r _ [38, 66, 98, 117, 303, 524, 308, 310, 312, 314, 316, 318, 320, 322, 323, 326, 328, 330, 332, 334, 336, 338, 340, 342, 344, 346, 348, 350, 352] rfl
theorem lk_neT : ∀ w ∈ kNe, w.onTables = true := by decide +kernel
set_option maxRecDepth 100000 in
theorem lk_st : ∀ w ∈ [Cond.laysStatic Bundle.tN "UNASSIGNED_STACK" Bundle.steD, Cond.laysStatic Bundle.tN "SUPPRESSED_SENTINEL" Bundle.listD, Cond.initialized Bundle.tN], w ∈ lw_tbl := sub_r _ [241, 243, 16] rfl
set_option maxRecDepth 100000 in
theorem lk_str : ∀ w ∈ kStr.map (fun q => Cond.stringRef RX4 q.1 q.2), w ∈ lw_tbl := sub_r _ [480] rfl
set_option maxRecDepth 100000 in
theorem lk_inst : ∀ w ∈ [Cond.instantiable RX0 3, Cond.instantiable RX1 8, Cond.instantiable RX2 11, Cond.instantiable RX3 5, Cond.instantiable RX4 13, Cond.instantiable RX5 23], w ∈ lw_tbl := sub_r _ [97, 65, 116, 37, 29, 302] rfl
set_option maxRecDepth 100000 in
theorem lk_ac : ∀ w ∈ [Cond.arrayClass .int, Cond.arrayClass .char, Cond.arrayClass .boolean], w ∈ lw_tbl := sub_r _ [63, 162, 515] rfl
set_option maxRecDepth 100000 in
theorem lk_ex : ∀ w ∈ kStr.map (fun q => Cond.exactly (.string RX4 q.1) "java/lang/String"), w ∈ flatC (Jvm.Cond.and given_1 narrow_1) := sub_r _ [79] (by decide +kernel)
set_option maxRecDepth 100000 in
theorem lk_nc : ∀ w ∈ kNcs.map (fun q => Cond.not (.castable q.1 q.2)), w ∈ flatC (Jvm.Cond.and given_1 narrow_1) := sub_r _ [] (by decide +kernel)
set_option maxRecDepth 100000 in
theorem lk_rf : ∀ w ∈ [Cond.isRef (.static Bundle.tN "UNASSIGNED_STACK" Bundle.steD), Cond.isRef (.static Bundle.tN "SUPPRESSED_SENTINEL" Bundle.listD)], w ∈ flatC (Jvm.Cond.and given_1 narrow_1) := sub_r _ [4, 5] (by decide +kernel)
section LK
variable {s : State} {args : Array Value}
theorem lk_kZ {A : Nat → Prop} (hts : ∀ w ∈ lw_tbl, w.before args s = true) (hgv : (Jvm.Cond.and given_1 narrow_1).before args s = true) (hA : ∀ a : Nat, a < s.heap.size → ¬ A a) : kZ A s := by
  have hg := flat_of_before _ hgv
  refine ⟨vx_Zqof (hts _ (lk_st _ (List.Mem.head _))) (hts _ (lk_st _ (List.Mem.tail _ (List.Mem.tail _ (List.Mem.head _))))) (hg _ (lk_rf _ (List.Mem.head _))) hA,
    vx_Zqof (hts _ (lk_st _ (List.Mem.tail _ (List.Mem.head _)))) (hts _ (lk_st _ (List.Mem.tail _ (List.Mem.tail _ (List.Mem.head _))))) (hg _ (lk_rf _ (List.Mem.tail _ (List.Mem.head _)))) hA,
    fun w hw => va_tabs (kNG_ot w hw) rfl (hts w (lk_ng w hw)), fun q hq => ?_, fun q hq => va_Nc.of (hg _ (lk_nc _ (List.mem_map_of_mem (f := fun q : String × String => Cond.not (.castable q.1 q.2)) hq)))⟩
  have a1 := hts _ (lk_str _ (List.mem_map_of_mem (f := fun q : Nat × String => Cond.stringRef RX4 q.1 q.2) hq))
  have a2 := hg _ (lk_ex _ (List.mem_map_of_mem (f := fun q : Nat × String => Cond.exactly (.string RX4 q.1) "java/lang/String") hq))
  obtain ⟨a, -, -, -, ha, -⟩ := Cond.exactly_spec a2
  exact ⟨a, vk_R.of a1 ha⟩
theorem lk_kN (hts : ∀ w ∈ lw_tbl, w.before args s = true) : ∀ w ∈ kNe, va_Nw w s := fun w hw => va_Nw.of (lk_neT w hw) (hts w (lk_ne w hw))
theorem lk_arr {ty : FieldType} (h : (Cond.arrayClass ty).before args s = true) : ∃ cA : ClassId, ArrOfT s cA ty ∧ s.vm.findClass ("[" ++ ty.toString) = some cA := by
  obtain ⟨cA, kA, comp, h1, h2, h3⟩ := Cond.arrayClass_spec h
  exact ⟨cA, fun n z => ⟨fun k h => (by cases h), kA, h2, comp, h3⟩, h1⟩
theorem lk_G (cl : List vw_C) (h : ∀ q ∈ cl, ∃ (cC : ClassId) (iS : Nat → Nat), u_Kn s q.1 q.2.1 q.2.2 cC iS) : ∃ D : va_G, ∀ (c : Nat) (q : vw_C), cl[c]? = some q → u_Kn s q.1 q.2.1 q.2.2 (D.1 c) (D.2 c) := by
  have H : ∀ c : Nat, ∃ d : ClassId × (Nat → Nat), ∀ q : vw_C, cl[c]? = some q → u_Kn s q.1 q.2.1 q.2.2 d.1 d.2 := by
    intro c
    cases hc : cl[c]? with
    | none => exact ⟨(0, fun _ => 0), fun q h => nomatch h⟩
    | some q0 =>
      obtain ⟨cC, iS, hk⟩ := h q0 (List.mem_of_getElem? hc)
      exact ⟨(cC, iS), fun q h => by cases h; exact hk⟩
  exact ⟨(fun c => (Classical.choose (H c)).1, fun c => (Classical.choose (H c)).2), fun c q hq => Classical.choose_spec (H c) q hq⟩
theorem lk_K (hts : ∀ w ∈ lw_tbl, w.before args s = true) : ∃ (D : va_G) (cI cC cJ cG : ClassId), va_K D vwCl (kty cI cC cJ cG) s := by
  obtain ⟨cI, i1, i2⟩ := lk_arr (hts _ (lk_ac _ (List.Mem.head _)))
  obtain ⟨cC, j1, j2⟩ := lk_arr (hts _ (lk_ac _ (List.Mem.tail _ (List.Mem.head _))))
  obtain ⟨cJ, k1, k2⟩ := lk_arr (hts _ (lk_ac _ (List.Mem.tail _ (List.Mem.tail _ (List.Mem.head _)))))
  have hi : ∀ w ∈ [Cond.instantiable RX0 3, Cond.instantiable RX1 8, Cond.instantiable RX2 11, Cond.instantiable RX3 5, Cond.instantiable RX4 13, Cond.instantiable RX5 23], w.before args s = true := fun w hw => hts w (lk_inst w hw)
  obtain ⟨D, hD⟩ := lk_G vwCl (s := s) (by
    refine List.forall_mem_cons.mpr ⟨u_known (T := TX0) (N := 3) hts inX0 (hi _ (List.mem_of_getElem? (i := 0) rfl)), ?_⟩
    refine List.forall_mem_cons.mpr ⟨u_known (T := TX1) (N := 8) hts inX1 (hi _ (List.mem_of_getElem? (i := 1) rfl)), ?_⟩
    refine List.forall_mem_cons.mpr ⟨u_known (T := TX2) (N := 11) hts inX2 (hi _ (List.mem_of_getElem? (i := 2) rfl)), ?_⟩
    refine List.forall_mem_cons.mpr ⟨u_known (T := TX3) (N := 5) hts inX3 (hi _ (List.mem_of_getElem? (i := 3) rfl)), ?_⟩
    refine List.forall_mem_cons.mpr ⟨u_known (T := TX4) (N := 13) hts inX4 (hi _ (List.mem_of_getElem? (i := 4) rfl)), ?_⟩
    refine List.forall_mem_cons.mpr ⟨u_known (T := TX5) (N := 23) hts inX5 (hi _ (List.mem_of_getElem? (i := 5) rfl)), ?_⟩
    exact fun _ h => absurd h List.not_mem_nil)
  refine ⟨D, cI, cC, cJ, cI, hD, ?_⟩
  intro k q hk
  match k, hk with
  | 0, hk => cases hk; exact ⟨i1, i2⟩
  | 1, hk => cases hk; exact ⟨j1, j2⟩
  | 2, hk => cases hk; exact ⟨k1, k2⟩
  | k + 3, hk => exact absurd hk (by simp [kty])
end LK
/-- a new mill keeps what holds between calls -/
theorem lk_all : All u_0 v_0 := by
  have z : ∀ n : Int, (0 : Int) ≤ n → (0 : Int) ≤ (0 : Int32).toInt ∧ (0 : Int32).toInt ≤ n := fun n hn => ⟨by decide, hn⟩
  refine ⟨⟨Nat.zero_le _, ⟨by decide, by decide⟩, Or.inl ⟨rfl, rfl, rfl⟩, Or.inr rfl, by decide, Nat.zero_le _, ⟨by decide, by decide⟩, ⟨by decide, by decide⟩, ⟨by decide, by decide⟩, ⟨by decide, by decide⟩, Nat.zero_le _, ⟨by decide, by decide⟩, ⟨by decide, by decide⟩, ⟨by decide, by decide⟩, ⟨by decide, by decide⟩, fun j hj => absurd hj (Nat.not_lt_zero j), fun j => z 400 (by decide), fun j hj => absurd hj (Nat.not_lt_zero j), fun j => z 50 (by decide), fun j _ => rfl⟩, rfl, fun j => rfl⟩
