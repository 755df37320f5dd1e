/-! what is made anew -/
def kNe : List Cond := [.methodLinkNest RX4 26 yX3_init RX4, .methodLinkNest RX4 33 yX1_init RX4, .methodLinkNest RX4 40 yX0_init RX4, .methodLinkNest RX4 47 yX2_init RX4, .methodLinkNest RL 191 yX5_init RL, .methodLinkNest RX5 61 yL_best RL, .fieldLinkNest RL 119 "PaperMachineLaw$Mill" "weight" "[I" RL, .fieldLinkNest RL 141 "PaperMachineLaw$Mill" "grade" "[I" RL, .fieldLinkNest RL 143 "PaperMachineLaw$Mill" "width" "[I" RL, .fieldLinkNest RL 80 "PaperMachineLaw$Mill" "lacks" "[I" RL, .fieldLinkNest RL 86 "PaperMachineLaw$Mill" "cut" "[I" RL, .fieldLinkNest RL 73 "PaperMachineLaw$Mill" "orders" "I" RL, .fieldLinkNest RL 95 "PaperMachineLaw$Mill" "machine" "I" RL, .fieldLinkNest RL 110 "PaperMachineLaw$Mill" "now" "I" RL, .fieldLinkNest RL 34 "PaperMachineLaw$Mill" "changing" "I" RL, .fieldLinkNest RL 153 "PaperMachineLaw$Mill" "isUp" "Z" RL, .fieldLinkNest RL 160 "PaperMachineLaw$Mill" "share" "I" RL, .fieldLinkNest RL 166 "PaperMachineLaw$Mill" "limit" "I" RL, .fieldLinkNest RL 169 "PaperMachineLaw$Mill" "first" "I" RL, .fieldLinkNest RL 172 "PaperMachineLaw$Mill" "second" "I" RL, .fieldLinkNest RL 26 "PaperMachineLaw$Mill" "hours" "I" RL, .fieldLinkNest RL 47 "PaperMachineLaw$Mill" "in" "J" RL, .fieldLinkNest RL 54 "PaperMachineLaw$Mill" "paper" "J" RL, .fieldLinkNest RL 59 "PaperMachineLaw$Mill" "lost" "J" RL, .fieldLinkNest RL 122 "PaperMachineLaw$Mill" "made" "J" RL, .fieldLinkNest RL 64 "PaperMachineLaw$Mill" "steam" "J" RL, .fieldLinkNest RL 128 "PaperMachineLaw$Mill" "papers" "I" RL, .fieldLinkNest RL 135 "PaperMachineLaw$Mill" "trims" "I" RL, .fieldLinkNest RL 106 "PaperMachineLaw$Mill" "last" "C" RL]
/-- what a constructor that calls a nestmate's wants -/
def kPn (D : va_G) (ty : List (ClassId × FieldType)) (As : List Value) (ws : va_W) (sz : Nat) : Array Value → State → Prop :=
  va_Pc As (fun U => U.heap.size = sz ∧ va_P D vwCl ws U.heap ∧ va_K D vwCl ty U ∧ va_D (fun _ => True) ws ∧ ∀ w ∈ kNe, va_Nw w U)
def kNv {S : Type} (l : Launch) (y : MethodName) (wm : List Cond) (rm : Room) (D : va_G) (ty : List (ClassId × FieldType)) (As : List Value) (ws : va_W) (sz mc ms : Nat) (post : S → Prop) (w : S → va_W) : Prop :=
  Met l y wm rm (kPn D ty As ws sz) (va_Qv post (kB D ty ws sz w) (va_A ws sz)) mc ms (va_A ws sz)
section KN
variable {p : Program} {l : Launch} {e : Env} {R : Room} {s : State} {m : MethodId} {args : Array Value} {below : List Frame} {meth : Method} {c : Code} {H : Heap} {locs : List Loc} {cells slots : Nat} {Q : State → Prop} {cc : ByteArray} {pc : Nat} {ls : Array Slot} {rest : List Value} {D : va_G} {ty : List (ClassId × FieldType)} {A : Nat → Prop} {ws : va_W} {a : Nat}
theorem kNe_same {u U : State} (h : u.vm = U.vm) (hn : ∀ w ∈ kNe, va_Nw w u) : ∀ w ∈ kNe, va_Nw w U := by
  intro w hw
  have h1 := hn w hw
  simp only [kNe, List.mem_cons, List.not_mem_nil, or_false] at hw
  rcases hw with rfl | rfl | rfl | rfl | rfl | rfl | rfl | rfl | rfl | rfl | rfl | rfl | rfl | rfl | rfl | rfl | rfl | rfl | rfl | rfl | rfl | rfl | rfl | rfl | rfl | rfl | rfl | rfl | rfl <;> exact va_Nw.same rfl h h1
theorem kNe_warm {u U : State} (hW : u.WarmedH U.vm) (hn : ∀ w ∈ kNe, va_Nw w u) : ∀ w ∈ kNe, va_Nw w U := by
  intro w hw
  have h1 := hn w hw
  simp only [kNe, List.mem_cons, List.not_mem_nil, or_false] at hw
  rcases hw with rfl | rfl | rfl | rfl | rfl | rfl | rfl | rfl | rfl | rfl | rfl | rfl | rfl | rfl | rfl | rfl | rfl | rfl | rfl | rfl | rfl | rfl | rfl | rfl | rfl | rfl | rfl | rfl | rfl
  · exact va_Nw.warmM hW h1
  · exact va_Nw.warmM hW h1
  · exact va_Nw.warmM hW h1
  · exact va_Nw.warmM hW h1
  · exact va_Nw.warmM hW h1
  · exact va_Nw.warmM hW h1
  · exact va_Nw.warmF hW h1
  · exact va_Nw.warmF hW h1
  · exact va_Nw.warmF hW h1
  · exact va_Nw.warmF hW h1
  · exact va_Nw.warmF hW h1
  · exact va_Nw.warmF hW h1
  · exact va_Nw.warmF hW h1
  · exact va_Nw.warmF hW h1
  · exact va_Nw.warmF hW h1
  · exact va_Nw.warmF hW h1
  · exact va_Nw.warmF hW h1
  · exact va_Nw.warmF hW h1
  · exact va_Nw.warmF hW h1
  · exact va_Nw.warmF hW h1
  · exact va_Nw.warmF hW h1
  · exact va_Nw.warmF hW h1
  · exact va_Nw.warmF hW h1
  · exact va_Nw.warmF hW h1
  · exact va_Nw.warmF hW h1
  · exact va_Nw.warmF hW h1
  · exact va_Nw.warmF hW h1
  · exact va_Nw.warmF hW h1
  · exact va_Nw.warmF hW h1
theorem kPn_blind {As : List Value} {sz : Nat} : FrameBlind (kPn D ty As ws sz) := by
  intro a U g mk q
  obtain ⟨q0, q1, qP, qK, qD, qN⟩ := q
  exact ⟨q0, q1, qP, va_K.moved (u := U) (U := U.calling g mk a) (Vm.Alike.refl U.vm) qK, qD, kNe_same (u := U) (U := U.calling g mk a) rfl qN⟩
theorem k_ofN {y : MethodName} {wm wm' : List Cond} {rm : Room} {As : List Value} {sz : Nat} {Qc : Array Value → State → Outcome → State → Prop} {mc ms : Nat} {free : Addr → Prop} {maxL : Nat} {ret : Option FieldType} {lv : List (Nat × Value)}
    (hy : plainName y.cls = true) (hwm : wm = Cond.code y cc maxL ret :: wm') (hn : (lg_sl As).length ≤ maxL) (hlv : lv_args 0 As = lv)
    (body : ∀ (p : Program) (e : Env) (s : State) (m : MethodId) (args : Array Value) (below : List Frame) (meth : Method) (c : Code) (ls : Array Slot) (H : Heap) (locs : List Loc), kE p s m args meth c y.cls cc maxL ret wm → (∀ w ∈ kNe, va_Nw w s) → meth.name = y.name → sz = s.heap.size → kW D ty s (va_A ws s.heap.size) ws H locs → lv_has ls maxL lv →
      W p l e rm s m args below meth c H locs 0 0 (MQ below Qc args s mc ms free) (F0 m 0 ls [])) : Met l y wm rm (kPn D ty As ws sz) Qc mc ms free := by
  refine Met.ofW (cc := cc) (maxL := maxL) (ret := ret) hy hwm ?_
  intro p e s m args below meth c s₁ B hml hv
  obtain ⟨rfl, hsz, hP, hK, hD0, hN⟩ := hv
  have hD := hD0.self (sz := s.heap.size)
  have hl := lv_entry As (n := maxL) hn
  rw [lg_entry_eq]
  rw [hlv] at hl
  exact body p e s m _ below meth c _ s.heap [] ⟨B.exec, B.bytes, B.returns, hml, findClass_of_methodNamed B.named, atoms_spec (ws := wm) B.pre, B.notSynchronized⟩ hN (name_of_methodNamed B.named B.method).1 hsz.symm ⟨hP, hD, va_S.rf, hK, fun q h => Or.inr h⟩ hl
theorem k_ofI {y : MethodName} {wm wm' : List Cond} {rm : Room} {As : List Value} {sz : Nat} {Qc : Array Value → State → Outcome → State → Prop} {mc ms : Nat} {free : Addr → Prop} {maxL : Nat} {ret : Option FieldType} {lv : List (Nat × Value)}
    (hy : plainName y.cls = true) (hwm : wm = Cond.code y cc maxL ret :: wm') (hn : (lg_sl As).length ≤ maxL) (hlv : lv_args 0 As = lv)
    (body : ∀ (p : Program) (e : Env) (s : State) (m : MethodId) (args : Array Value) (below : List Frame) (meth : Method) (c : Code) (ls : Array Slot) (H : Heap) (locs : List Loc), kE p s m args meth c y.cls cc maxL ret wm → meth.name = y.name → sz = s.heap.size → kW D ty s (va_A ws s.heap.size) ws H locs → lv_has ls maxL lv →
      W p l e rm s m args below meth c H locs 0 0 (MQ below Qc args s mc ms free) (F0 m 0 ls [])) : Met l y wm rm (kPc D ty As ws sz) Qc mc ms free := by
  refine Met.ofW (cc := cc) (maxL := maxL) (ret := ret) hy hwm ?_
  intro p e s m args below meth c s₁ B hml hv
  obtain ⟨rfl, hsz, hP, hK, hD0⟩ := hv
  have hD := hD0.self (sz := s.heap.size)
  have hl := lv_entry As (n := maxL) hn
  rw [lg_entry_eq]
  rw [hlv] at hl
  exact body p e s m _ below meth c _ s.heap [] ⟨B.exec, B.bytes, B.returns, hml, findClass_of_methodNamed B.named, atoms_spec (ws := wm) B.pre, B.notSynchronized⟩ (name_of_methodNamed B.named B.method).1 hsz.symm ⟨hP, hD, va_S.rf, hK, fun q h => Or.inr h⟩ hl
theorem k_preN {As : List Value} {wc : va_W} (hN : ∀ w ∈ kNe, va_Nw w s) (hw : kW D ty s A ws H locs) (isC : List Nat) (hndC : va_nd isC = true) (hC : isC.map (fun i => ws[i]?) = wc.map some) : PreS s H (kPn D ty As wc H.size) As := by
  obtain ⟨hP, hD, hS, hK, hA⟩ := kW.pick hw isC hndC hC
  exact ⟨kPn_blind, fun U hU hW => ⟨rfl, by rw [hU], by rw [hU]; exact hP, va_K.moved hW.alike hK, hD.weaken (fun _ _ _ _ => trivial), kNe_warm hW hN⟩⟩
/-- a call of a nestmate's constructor -/
theorem k_runIN {Ts wm : List Cond} {bytes : ByteArray} {nL maxL index n mc ms : Nat} {own host : String} {y : MethodName} {rm : Room} {b : Addr} {As : List Value} {st0 : List Value} {wc : va_W} {Qc : Array Value → State → Outcome → State → Prop} {free : Addr → Prop} (hS : CallFix p m c cc nL s args Ts own) (hM : Met l y wm rm (kPc D ty (.ref b :: As) wc H.size) Qc mc ms free) (cw : va_CN R s args own index y host bytes maxL none wm rm mc ms n ∧ y.name = "<init>" ∧ (Cond.instanceMethod y).before args s = true) (hw : kW D ty s A ws H locs) (isC : List Nat) (hndC : va_nd isC = true) (hC : isC.map (fun i => ws[i]?) = wc.map some)
    (hn : As.length = n) (hsize : ls.size = nL) (hst : st0 = As.reverse ++ .ref b :: rest) (hrest : (rest.map fun v => v.category).sum ≤ 8) (hdg : decode cc pc = .ok (.invokespecial index, 3)) (hf : cells + mc ≤ R.cells ∧ slots + ms ≤ R.slots) :
    va_Run p l e R s m args below meth c H locs cells slots mc ms (F0 m pc ls st0) rest (Qc (Value.ref b :: As).toArray) free :=
  va_runIN hS hM cw (k_pre hw isC hndC hC) rfl hn hsize hst (lv_room hrest) hdg hf
theorem k_newa {atype : ArrayType} {fty : FieldType} {cA : ClassId} {n : Int32} {N : Nat} {a0 : vp_A} (hx : p.tables.exec = Jvm.exec) (hb : c.code = cc) (harr : (Cond.arrayClass (newarray.typeOf atype)).before args s = true) (hty : newarray.typeOf atype = fty) (hw : kW D ty s A ws H locs) (t0 : Nat) (ht : ty[t0]? = some (cA, fty)) (hone : ∀ c1 c2 : ClassId, va_RA s c1 fty → va_RA s c2 fty → c1 = c2)
    (ha : ∀ cA : ClassId, vp_cell cA a0 = arrV cA N (fun _ => defaultValue fty)) (hn : ¬ n < 0) (hN : n.toNatClampNeg = N) (hbytes : N * componentBytes fty ≤ 536870912) (hcells : cells + 1 ≤ R.cells) (hslots : slots + N ≤ R.slots) (hdg : decode cc pc = .ok (.newarray atype, 2))
    (kk : ∀ (q : Nat) (H1 : Heap), kW D ty s A (ws ++ [(q, .inl (cA, a0))]) H1 locs → W p l e R s m args below meth c H1 locs (cells + 1) (slots + N) Q (F0 m (pc + 2) ls (.ref q :: rest))) : W p l e R s m args below meth c H locs cells slots Q (F0 m pc ls (.int n :: rest)) := by
  obtain ⟨hP, hD, hS, hK, hA⟩ := hw
  refine va_newa hx hb harr hty hK hP hD hS hA ha hn hN hbytes hcells hslots hdg (fun q cA' H1 k1 h1 h2 h3 => ?_)
  have e1 := (hK.2 t0 _ ht).2
  have e2 := (k1.2 ty.length (cA', fty) (by rw [List.getElem?_append_right (Nat.le_refl _)]; simp)).2
  obtain rfl : cA' = cA := hone _ _ e2 e1
  exact kk q H1 ⟨h1, h2, h3, hK, hA⟩
theorem k_new {own C : String} {T : u_T} {N ci index : Nat} {Ts : List Cond} {fs : List Value} (hx : p.tables.exec = Jvm.exec) (hb : c.code = cc) (hts : ∀ w ∈ Ts, w.before args s = true) (hin : ∀ w ∈ u_ws C T N, w ∈ Ts) {ty0 : Nat → FieldType} (hty : ∀ k, k < N → parseFieldDescriptor (T k).2.2.1 = some (ty0 k)) (hown : s.vm.findClass own = some m.cls) (hcl : (Cond.classLink own index C).before args s = true) (hinst : (Cond.instantiable C N).before args s = true) (hini : (Cond.initialized C).before args s = true)
    (hw : kW D ty s A ws H locs) (hc : vwCl[ci]? = some (C, T, N)) (hfs : ∀ j, j < N → defaultValue (ty0 j) = vp_V fs j) (hcells : cells + 1 ≤ R.cells) (hslots : slots + N ≤ R.slots) (hdg : decode cc pc = .ok (.new index, 3))
    (kk : ∀ (q : Nat) (H1 : Heap), kW D ty s A (ws ++ [(q, .inr (ci, fs))]) H1 locs → W p l e R s m args below meth c H1 locs (cells + 1) (slots + N) Q (F0 m (pc + 3) ls (.ref q :: rest))) : W p l e R s m args below meth c H locs cells slots Q (F0 m pc ls rest) := by
  obtain ⟨hP, hD, hS, hK, hA⟩ := hw
  exact va_new hx hb hts hin ty0 hty hown hcl hinst hini hK hP hD hS hA hc hfs hcells hslots hdg (fun q H1 h1 h2 h3 => kk q H1 ⟨h1, h2, h3, hK, hA⟩)
theorem one_i {s : State} : ∀ c1 c2 : ClassId, va_RA s c1 .int → va_RA s c2 .int → c1 = c2 := fun _ _ h1 h2 => Option.some.inj ((va_nm_int h1).symm.trans (va_nm_int h2))
theorem one_c {s : State} : ∀ c1 c2 : ClassId, va_RA s c1 .char → va_RA s c2 .char → c1 = c2 := fun _ _ h1 h2 => Option.some.inj ((va_nm_char h1).symm.trans (va_nm_char h2))
theorem one_z {s : State} : ∀ c1 c2 : ClassId, va_RA s c1 .boolean → va_RA s c2 .boolean → c1 = c2 := fun _ _ h1 h2 => Option.some.inj ((va_nm_boolean h1).symm.trans (va_nm_boolean h2))
theorem one_l {s : State} : ∀ c1 c2 : ClassId, va_RA s c1 .long → va_RA s c2 .long → c1 = c2 := fun _ _ h1 h2 => Option.some.inj ((va_nm_long h1).symm.trans (va_nm_long h2))
theorem one_d {s : State} : ∀ c1 c2 : ClassId, va_RA s c1 .double → va_RA s c2 .double → c1 = c2 := fun _ _ h1 h2 => Option.some.inj ((va_nm_double h1).symm.trans (va_nm_double h2))
end KN
/-- a new mill -/
def u_0 : ST := (0, 600, -1, 0, 1, 0, 20, 0, 2000, 3, 5, 0, 0, 0, 0, 0, 0, 0, 0, fun _ => 0, fun _ => 0, fun _ => 0, fun _ => 0, fun _ => 0, fun _ => 0)
def v_0 : HX := (fun _ => 0, fun _ => 0, fun _ => 0)
def x_0 : CX := (fun _ => 0, fun _ => 0, fun _ => 0, fun _ => 0, fun _ => 0, fun _ => 0, 0, 0)
def y_0 : MX := 0
