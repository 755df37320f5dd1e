/-! methods that may throw: what they want of the start, what they leave -/
def kE6 : List String := ["java/util/NoSuchElementException"]
def kNG : List Cond := [.declares (Bundle.initS "java/lang/RuntimeException"), .declares (Bundle.initS "java/lang/Exception"), .declares (Bundle.initS Bundle.tN)] ++ kE6.map (fun e => .castable e e)
def kStr : List (Nat × String) := [(116, "no other grade has open orders")]
def kNcs : List (String × String) := []
theorem kNG_ot : ∀ w ∈ kNG, w.onTables = true := by decide +kernel
theorem kNG_set {args : Array Value} {s : State} {vm1 : Vm} (h : s.vm.Alike vm1) : ∀ w ∈ kNG, w.before args (s.setVm vm1) = w.before args s := by
  intro w hw
  simp only [kNG, kE6, List.map, List.cons_append, List.nil_append, List.mem_cons, List.not_mem_nil, or_false] at hw
  rcases hw with rfl | rfl | rfl | rfl
  · exact Cond.declares_setVm h _
  · exact Cond.declares_setVm h _
  · exact Cond.declares_setVm h _
  · exact Cond.castable_setVm h _ _
theorem kNG_moved {A A' : Array Value} {u U : State} (hvm : u.vm.Alike U.vm) (h : ∀ w ∈ kNG, w.before A u = true) : ∀ w ∈ kNG, w.before A' U = true := by
  intro w hw
  refine va_tabs (kNG_ot w hw) (u := u.setVm U.vm) rfl (A := A) ?_
  rw [kNG_set hvm w hw]
  exact h w hw
def kZ (A : Nat → Prop) (U : State) : Prop :=
  vx_Zq Bundle.tN "UNASSIGNED_STACK" Bundle.steD A U U.heap ∧ vx_Zq Bundle.tN "SUPPRESSED_SENTINEL" Bundle.listD A U U.heap ∧ (∀ w ∈ kNG, w.before #[] U = true) ∧ (∀ q ∈ kStr, ∃ sa, vk_R RX4 q.1 q.2 sa U) ∧ ∀ q ∈ kNcs, va_Nc q.1 q.2 U
theorem kZ.to {A B : Nat → Prop} {s U : State} (h : kZ A s) (hW : s.WarmedH U.vm) (hk : ∀ a : Nat, a < s.heap.size → ¬ A a → U.heap[a]? = s.heap[a]?) (hAB : ∀ q, B q → A q) : kZ B U := by
  obtain ⟨h1, h2, h3, h4, h5⟩ := h
  refine ⟨(vx_Zq.moved hW.alike (h1.kept hk)).narrow hAB, (vx_Zq.moved hW.alike (h2.kept hk)).narrow hAB, kNG_moved hW.alike h3, fun q hq => ?_, fun q hq => va_Nc.moved hW.alike (h5 q hq)⟩
  obtain ⟨sa, hs⟩ := h4 q hq
  exact ⟨sa, vk_R.warm hW hs⟩
def kPx (D : va_G) (ty : List (ClassId × FieldType)) (As : List Value) (ws : va_W) (sz : Nat) : Array Value → State → Prop :=
  va_Pc As (fun U => U.heap.size = sz ∧ va_P D vwCl ws U.heap ∧ va_K D vwCl ty U ∧ va_D (fun _ => True) ws ∧ kZ (va_A ws sz) U)
def kXC (D : va_G) (ty : List (ClassId × FieldType)) (ws : va_W) (sz : Nat) (xp : String → Prop) : String → State → State → Prop :=
  vx_X (S := Unit) (fun _ => True) (fun E _ t => xp E ∧ kB D ty ws sz (fun _ : Unit => ws) () t) (va_A ws sz)
def kXi {S : Type} (l : Launch) (y : MethodName) (wm : List Cond) (rm : Room) (D : va_G) (ty : List (ClassId × FieldType)) (As : List Value) (ws : va_W) (sz mc ms : Nat) (post : Int32 → S → Prop) (w : S → va_W) (xp : String → Prop) : Prop :=
  vx_Met l y wm rm (kPx D ty As ws sz) (va_Qi post (kB D ty ws sz w) (va_A ws sz)) (kXC D ty ws sz xp) mc ms (va_A ws sz)
def kXf {S : Type} (l : Launch) (y : MethodName) (wm : List Cond) (rm : Room) (D : va_G) (ty : List (ClassId × FieldType)) (As : List Value) (ws : va_W) (sz mc ms : Nat) (post : UInt32 → S → Prop) (w : S → va_W) (xp : String → Prop) : Prop :=
  vx_Met l y wm rm (kPx D ty As ws sz) (va_Qf post (kB D ty ws sz w) (va_A ws sz)) (kXC D ty ws sz xp) mc ms (va_A ws sz)
def kXd {S : Type} (l : Launch) (y : MethodName) (wm : List Cond) (rm : Room) (D : va_G) (ty : List (ClassId × FieldType)) (As : List Value) (ws : va_W) (sz mc ms : Nat) (post : UInt64 → S → Prop) (w : S → va_W) (xp : String → Prop) : Prop :=
  vx_Met l y wm rm (kPx D ty As ws sz) (va_Qd post (kB D ty ws sz w) (va_A ws sz)) (kXC D ty ws sz xp) mc ms (va_A ws sz)
section KX
variable {p : Program} {l : Launch} {e : Env} {R : Room} {s : State} {m : MethodId} {args : Array Value} {below : List Frame} {meth : Method} {c : Code} {H : Heap} {locs : List Loc} {cells slots : Nat} {Q : State → Prop} {cc : ByteArray} {pc : Nat} {ls : Array Slot} {rest : List Value} {D : va_G} {ty : List (ClassId × FieldType)} {A : Nat → Prop} {ws : va_W} {a : Nat}
theorem kPx_blind {As : List Value} {sz : Nat} : FrameBlind (kPx D ty As ws sz) := by
  intro a U g mk q
  obtain ⟨q0, q1, qP, qK, qD, z1, z2, z3, z4, z5⟩ := q
  refine ⟨q0, q1, qP, va_K.moved (u := U) (U := U.calling g mk a) (Vm.Alike.refl U.vm) qK, qD, vx_Zq.moved (u := U) (U := U.calling g mk a) (Vm.Alike.refl U.vm) z1, vx_Zq.moved (u := U) (U := U.calling g mk a) (Vm.Alike.refl U.vm) z2, kNG_moved (u := U) (U := U.calling g mk a) (Vm.Alike.refl U.vm) z3, fun q hq => ?_, fun q hq => va_Nc.moved (u := U) (U := U.calling g mk a) (Vm.Alike.refl U.vm) (z5 q hq)⟩
  obtain ⟨sa, hs⟩ := z4 q hq
  exact ⟨sa, vk_R.same (u := U) (U := U.calling g mk a) rfl hs⟩
theorem k_ofX {y : MethodName} {wm wm' : List Cond} {rm : Room} {As : List Value} {sz : Nat} {Qc : Array Value → State → Outcome → State → Prop} {XC : String → State → State → Prop} {mc ms : Nat} {free : Addr → Prop} {maxL : Nat} {ret : Option FieldType} {lv : List (Nat × Value)}
    (hy : plainName y.cls = true) (hwm : wm = Cond.code y cc maxL ret :: wm') (hn : (lg_sl As).length ≤ maxL) (hlv : lv_args 0 As = lv)
    (body : ∀ (p : Program) (e : Env) (s : State) (m : MethodId) (args : Array Value) (below : List Frame) (meth : Method) (c : Code) (ls : Array Slot) (H : Heap) (locs : List Loc), kE p s m args meth c y.cls cc maxL ret wm → (∀ x ∈ c.exceptionTable.toList, False) → sz = s.heap.size → kZ (va_A ws s.heap.size) s → kW D ty s (va_A ws s.heap.size) ws H locs → lv_has ls maxL lv →
      W p l e rm s m args below meth c H locs 0 0 (vx_MQ below Qc XC args s mc ms free) (F0 m 0 ls [])) : vx_Met l y wm rm (kPx D ty As ws sz) Qc XC mc ms free := by
  refine vx_ofW (cc := cc) (maxL := maxL) (ret := ret) hy hwm ?_
  intro p e s m args below meth c s₁ B hml hex hv
  obtain ⟨rfl, hsz, hP, hK, hD0, hz⟩ := hv
  have hD := hD0.self (sz := s.heap.size)
  have hl := lv_entry As (n := maxL) hn
  rw [lg_entry_eq]
  rw [hlv] at hl
  exact body p e s m _ below meth c _ s.heap [] ⟨B.exec, B.bytes, B.returns, hml, findClass_of_methodNamed B.named, atoms_spec (ws := wm) B.pre, B.notSynchronized⟩ hex hsz.symm (by rw [← hsz] at hz; exact hz) ⟨hP, hD, va_S.rf, hK, fun q h => Or.inr h⟩ hl
theorem k_xc {ws0 : va_W} {xp : String → Prop} {E : String} (hw : kW D ty s (va_A ws0 s.heap.size) ws0 H locs) (hE : xp E) {t : State} (hvm : s.vm.Alike t.vm) (h1 : H.size ≤ t.heap.size) (h2 : ∀ q : Nat, q < H.size → t.heap[q]? = H[q]?) : kXC D ty ws0 s.heap.size xp E s t := by
  obtain ⟨hP, hD, hS, hK, hA⟩ := hw
  refine ⟨(), trivial, ⟨hE, hP.kept (fun k q hk => h2 q.1 (vx_lt hP hk)), va_K.moved hvm hK, hD⟩, Nat.le_trans hS.1 h1, fun q hq hn => (h2 q (Nat.lt_of_lt_of_le hq hS.1)).trans (hS.2.1 q hq hn)⟩
theorem k_throw {ws0 : va_W} {xp : String → Prop} {Qc : Array Value → State → Outcome → State → Prop} {own cls text : String} {ik is ic : Nat} (hx : p.tables.exec = Jvm.exec) (hb : c.code = cc) (hl : l.stackTraces = false) (hown : s.vm.findClass own = some m.cls) (ho : own = RX4) (hlocks : meth.locks = false) (hex : ∀ x ∈ c.exceptionTable.toList, False) (hsize : ls.size = c.maxLocals)
    (hcls : Bundle.fit cls = true) (hk : (Cond.classLink own ik cls).before args s = true) (hini : (Cond.initialized cls).before args s = true)
    (hgw : ∀ w ∈ (vx_atS own ic cls ["java/lang/RuntimeException", "java/lang/Exception"]).filter goodWord, w.before args s = true) (hng : ((vx_atS own ic cls ["java/lang/RuntimeException", "java/lang/Exception"]).filter (fun w => !goodWord w)).all (fun w => decide (w ∈ kNG)) = true) (hgood : (Cond.classLink own ik cls :: Cond.initialized cls :: vx_atS own ic cls ["java/lang/RuntimeException", "java/lang/Exception"]).all vx_ot = true)
    (hZ : kZ (va_A ws0 s.heap.size) s) (hw : kW D ty s (va_A ws0 s.heap.size) ws0 H locs) (hxp : xp cls) (hs : (is, text) ∈ kStr)
    (d0 : decode cc pc = .ok (.new ik, 3)) (d3 : decode cc (pc + 3) = .ok (.dup, 1)) (d4 : decode cc (pc + 4) = .ok (.ldc is, 2)) (d6 : decode cc (pc + 6) = .ok (.invokespecial ic, 3)) (d9 : decode cc (pc + 9) = .ok (.athrow, 1))
    (hRframes : 5 < R.frames) (hRlocals : (rest.map fun v => v.category).sum + 82 ≤ R.locals) (hRcells : cells + 1 ≤ R.cells) (hRslots : slots + 6 ≤ R.slots) {mc ms : Nat} (hc : cells + 1 ≤ mc) (hsl : slots + 6 ≤ ms) :
    W p l e R s m args below meth c H locs cells slots (vx_MQ below Qc (kXC D ty ws0 s.heap.size xp) args s mc ms (va_A ws0 s.heap.size)) (F0 m pc ls rest) := by
  obtain ⟨z1, z2, z3, z4, z5⟩ := hZ
  obtain ⟨sa, hsa⟩ := z4 _ hs
  subst ho
  refine vx_throwS (A := va_A ws0 s.heap.size) (names := ["java/lang/RuntimeException", "java/lang/Exception"]) (sa := sa) hx hb hl hown hcls (by decide +kernel) hk hini hsa
    (vx_hat hgw (fun w hw => of_decide_eq_true (List.all_eq_true.mp hng w hw)) (kNG_moved (u := s) (U := s) (Vm.Alike.refl s.vm) z3)) (fun w hw => List.all_eq_true.mp hgood w hw) z1 z2 hw.2.2.1 hsize d0 d3 d4 d6 d9 (fun x hx => (hex x hx).elim) hRframes (by simpa using hRlocals) hRcells hRslots hlocks
    (fun t h1 h2 h3 => k_xc hw hxp h1 h2 h3) hw.2.2.1.2.2 hc hsl
theorem k_throwN {ws0 : va_W} {xp : String → Prop} {Qc : Array Value → State → Outcome → State → Prop} {own cls text : String} {ik is ic : Nat} (hx : p.tables.exec = Jvm.exec) (hb : c.code = cc) (hl : l.stackTraces = false) (hown : s.vm.findClass own = some m.cls) (ho : own = RX4) (hlocks : meth.locks = false) (hex : ∀ x ∈ c.exceptionTable.toList, False) (hsize : ls.size = c.maxLocals)
    (hcls : Bundle.fit cls = true) (hk : (Cond.classLink own ik cls).before args s = true) (hini : (Cond.initialized cls).before args s = true)
    (hgw : ∀ w ∈ (nx_atS own ic cls ["java/lang/RuntimeException", "java/lang/Exception"]).filter goodWord, w.before args s = true) (hng : ((nx_atS own ic cls ["java/lang/RuntimeException", "java/lang/Exception"]).filter (fun w => !goodWord w)).all (fun w => decide (w ∈ kNG)) = true) (hgood : (Cond.classLink own ik cls :: Cond.initialized cls :: nx_atS own ic cls ["java/lang/RuntimeException", "java/lang/Exception"]).all vx_ot = true)
    (hZ : kZ (va_A ws0 s.heap.size) s) (hw : kW D ty s (va_A ws0 s.heap.size) ws0 H locs) (hxp : xp cls) (hs : (is, text) ∈ kStr)
    (d0 : decode cc pc = .ok (.new ik, 3)) (d3 : decode cc (pc + 3) = .ok (.dup, 1)) (d4 : decode cc (pc + 4) = .ok (.ldc is, 2)) (d6 : decode cc (pc + 6) = .ok (.invokespecial ic, 3)) (d9 : decode cc (pc + 9) = .ok (.athrow, 1))
    (hRframes : 5 < R.frames) (hRlocals : (rest.map fun v => v.category).sum + 82 ≤ R.locals) (hRcells : cells + 1 ≤ R.cells) (hRslots : slots + 6 ≤ R.slots) {mc ms : Nat} (hc : cells + 1 ≤ mc) (hsl : slots + 6 ≤ ms) :
    W p l e R s m args below meth c H locs cells slots (vx_MQ below Qc (kXC D ty ws0 s.heap.size xp) args s mc ms (va_A ws0 s.heap.size)) (F0 m pc ls rest) := by
  obtain ⟨z1, z2, z3, z4, z5⟩ := hZ
  obtain ⟨sa, hsa⟩ := z4 _ hs
  subst ho
  refine nx_throwS (A := va_A ws0 s.heap.size) (names := ["java/lang/RuntimeException", "java/lang/Exception"]) (sa := sa) hx hb hl hown hcls (by decide +kernel) hk hini hsa
    (vx_hat hgw (fun w hw => of_decide_eq_true (List.all_eq_true.mp hng w hw)) (kNG_moved (u := s) (U := s) (Vm.Alike.refl s.vm) z3)) (fun w hw => List.all_eq_true.mp hgood w hw) z1 z2 hw.2.2.1 hsize d0 d3 d4 d6 d9 (fun x hx => (hex x hx).elim) hRframes (by simpa using hRlocals) hRcells hRslots hlocks
    (fun t h1 h2 h3 => k_xc hw hxp h1 h2 h3) hw.2.2.1.2.2 hc hsl
/-! calls of methods that may throw -/
section KXC
variable {Ts wm : List Cond} {bytes : ByteArray} {nL maxL index n mc ms : Nat} {own C : String} {y : MethodName} {ret : Option FieldType} {rm : Room} {b : Addr} {As : List Value} {st0 : List Value} {S : Type} {wc wr : va_W} {w : S → va_W} {xp : String → Prop}
theorem k_xpreV {T : u_T} {N ci : Nat} {fs : List Value} (hZ : kZ A s) (hw : kW D ty s A ws H locs) (isC : List Nat) (hndC : va_nd isC = true) (hC : isC.map (fun i => ws[i]?) = wc.map some) (q0 : Nat) (he : ws[q0]? = some (b, .inr (ci, fs))) (hc : vwCl[ci]? = some (C, T, N)) : PreV s H C b (kPx D ty (.ref b :: As) wc H.size) As := by
  obtain ⟨hP, hD, hS, hK, hA⟩ := kW.pick hw isC hndC hC
  have hF := va_free hw.2.1 hw.2.2.1 hw.2.2.2.2 isC hC
  exact ⟨kPx_blind, va_recv hw.2.2.2.1 hw.1 hc he, fun U hU hW => ⟨rfl, by rw [hU], by rw [hU]; exact hP, va_K.moved hW.alike hK, hD.weaken (fun _ _ _ _ => trivial), hZ.to hW (fun q h1 h2 => by rw [hU]; exact hS.2.1 q h1 h2) hF⟩⟩
theorem k_xans {wc wr : va_W} {t : State} {H1 : Heap} {locs1 : List Loc} (hw : kW D ty s A ws H locs) (isC isR : List Nat) (hC : isC.map (fun i => ws[i]?) = wc.map some) (hR : isR.map (fun i => ws[i]?) = wr.map some) (hn : va_nd isR = true) (hdis : ∀ i ∈ isR, i ∉ isC)
    (ht : t.heap = H1) (hB : kB D ty wc H.size (fun _ : Unit => wc) () t) (hk1 : ∀ q : Nat, q < H.size → ¬ va_A wc H.size q → H1[q]? = H[q]?) (hS1 : va_S A s.heap H1 locs1) : kW D ty s A (wr ++ wc) H1 locs1 :=
  k_ans (w := fun _ : Unit => wc) (u := ()) hw isC isR hC hR hn hdis ht hB hk1 hS1
theorem k_xrunV {Qc : Array Value → State → Outcome → State → Prop} {XC : String → State → State → Prop} {free : Addr → Prop} {T : u_T} {N ci : Nat} {fs : List Value} (hS : CallFix p m c cc nL s args Ts own) (hM : vx_Met l y wm rm (kPx D ty (.ref b :: As) wc H.size) Qc XC mc ms free) (cw : CallW R s args own C index y bytes maxL ret wm rm mc ms n) (hZ : kZ A s) (hw : kW D ty s A ws H locs) (isC : List Nat) (hndC : va_nd isC = true) (hC : isC.map (fun i => ws[i]?) = wc.map some) (q0 : Nat) (he : ws[q0]? = some (b, .inr (ci, fs))) (hc : vwCl[ci]? = some (C, T, N))
    (hn : As.length = n) (hsize : ls.size = nL) (hst : st0 = As.reverse ++ .ref b :: rest) (hrest : (rest.map fun v => v.category).sum ≤ 8) (hdg : decode cc pc = .ok (.invokevirtual index, 3)) (hf : cells + mc ≤ R.cells ∧ slots + ms ≤ R.slots) :
    vx_Run p l e R s m args below meth c H locs cells slots mc ms (F0 m pc ls st0) rest (Qc (Value.ref b :: As).toArray) XC free :=
  vx_runV hS hM cw (k_xpreV hZ hw isC hndC hC q0 he hc) rfl hn hsize hst (lv_room hrest) hdg hf
theorem k_xcalli {post : Int32 → S → Prop} {aa : Array Value} (hr : vx_Run p l e R s m args below meth c H locs cells slots mc ms (F0 m pc ls st0) rest (va_Qi post (kB D ty wc H.size w) (va_A wc H.size) aa) (kXC D ty wc H.size xp) (va_A wc H.size)) (hw : kW D ty s A ws H locs) (isC isR : List Nat) (hC : isC.map (fun i => ws[i]?) = wc.map some) (hR : isR.map (fun i => ws[i]?) = wr.map some) (hn : va_nd isR = true) (hdis : ∀ i ∈ isR, i ∉ isC)
    (kx : ∀ (E : String) (ce : Cell) (q9 : Addr) (H1 : Heap) (locs1 : List Loc), xp E → kW D ty s A (wr ++ wc) H1 locs1 → H1[q9]? = some ce → ce.vm = .none → s.vm.findClass E = some ce.cls → vx_W p l e R s m args below meth c H1 locs1 (cells + mc) (slots + ms) Q (F0 m pc ls rest) q9)
    (kk : ∀ (r : Int32) (u : S) (H1 : Heap) (locs1 : List Loc), post r u → kW D ty s A (wr ++ w u) H1 locs1 → W p l e R s m args below meth c H1 locs1 (cells + mc) (slots + ms) Q (F0 m (pc + 3) ls (.int r :: rest))) : W p l e R s m args below meth c H locs cells slots Q (F0 m pc ls st0) :=
  vx_calli hr hw.2.2.1 (fun q _ h => va_free hw.2.1 hw.2.2.1 hw.2.2.2.2 isC hC q h) (va_free hw.2.1 hw.2.2.1 hw.2.2.2.2 isC hC) (fun q _ h => va_free hw.2.1 hw.2.2.1 hw.2.2.2.2 isC hC q h)
    (fun E ce q9 u t H1 locs1 ht _ _ hB _ hk1 hS1 hce hv hcl => kx E ce q9 H1 locs1 hB.1 (k_xans hw isC isR hC hR hn hdis ht hB.2 hk1 hS1) hce hv hcl)
    (fun r u t H1 locs1 ht _ hp hB _ hk1 hS1 => kk r u H1 locs1 hp (k_ans hw isC isR hC hR hn hdis ht hB hk1 hS1))
theorem k_xcallf {post : UInt32 → S → Prop} {aa : Array Value} (hr : vx_Run p l e R s m args below meth c H locs cells slots mc ms (F0 m pc ls st0) rest (va_Qf post (kB D ty wc H.size w) (va_A wc H.size) aa) (kXC D ty wc H.size xp) (va_A wc H.size)) (hw : kW D ty s A ws H locs) (isC isR : List Nat) (hC : isC.map (fun i => ws[i]?) = wc.map some) (hR : isR.map (fun i => ws[i]?) = wr.map some) (hn : va_nd isR = true) (hdis : ∀ i ∈ isR, i ∉ isC)
    (kx : ∀ (E : String) (ce : Cell) (q9 : Addr) (H1 : Heap) (locs1 : List Loc), xp E → kW D ty s A (wr ++ wc) H1 locs1 → H1[q9]? = some ce → ce.vm = .none → s.vm.findClass E = some ce.cls → vx_W p l e R s m args below meth c H1 locs1 (cells + mc) (slots + ms) Q (F0 m pc ls rest) q9)
    (kk : ∀ (r : UInt32) (u : S) (H1 : Heap) (locs1 : List Loc), post r u → kW D ty s A (wr ++ w u) H1 locs1 → W p l e R s m args below meth c H1 locs1 (cells + mc) (slots + ms) Q (F0 m (pc + 3) ls (.float r :: rest))) : W p l e R s m args below meth c H locs cells slots Q (F0 m pc ls st0) :=
  vx_callf hr hw.2.2.1 (fun q _ h => va_free hw.2.1 hw.2.2.1 hw.2.2.2.2 isC hC q h) (va_free hw.2.1 hw.2.2.1 hw.2.2.2.2 isC hC) (fun q _ h => va_free hw.2.1 hw.2.2.1 hw.2.2.2.2 isC hC q h)
    (fun E ce q9 u t H1 locs1 ht _ _ hB _ hk1 hS1 hce hv hcl => kx E ce q9 H1 locs1 hB.1 (k_xans hw isC isR hC hR hn hdis ht hB.2 hk1 hS1) hce hv hcl)
    (fun r u t H1 locs1 ht _ hp hB _ hk1 hS1 => kk r u H1 locs1 hp (k_ans hw isC isR hC hR hn hdis ht hB hk1 hS1))
theorem k_xcalld {post : UInt64 → S → Prop} {aa : Array Value} (hr : vx_Run p l e R s m args below meth c H locs cells slots mc ms (F0 m pc ls st0) rest (va_Qd post (kB D ty wc H.size w) (va_A wc H.size) aa) (kXC D ty wc H.size xp) (va_A wc H.size)) (hw : kW D ty s A ws H locs) (isC isR : List Nat) (hC : isC.map (fun i => ws[i]?) = wc.map some) (hR : isR.map (fun i => ws[i]?) = wr.map some) (hn : va_nd isR = true) (hdis : ∀ i ∈ isR, i ∉ isC)
    (kx : ∀ (E : String) (ce : Cell) (q9 : Addr) (H1 : Heap) (locs1 : List Loc), xp E → kW D ty s A (wr ++ wc) H1 locs1 → H1[q9]? = some ce → ce.vm = .none → s.vm.findClass E = some ce.cls → vx_W p l e R s m args below meth c H1 locs1 (cells + mc) (slots + ms) Q (F0 m pc ls rest) q9)
    (kk : ∀ (r : UInt64) (u : S) (H1 : Heap) (locs1 : List Loc), post r u → kW D ty s A (wr ++ w u) H1 locs1 → W p l e R s m args below meth c H1 locs1 (cells + mc) (slots + ms) Q (F0 m (pc + 3) ls (.double r :: rest))) : W p l e R s m args below meth c H locs cells slots Q (F0 m pc ls st0) :=
  vx_calld hr hw.2.2.1 (fun q _ h => va_free hw.2.1 hw.2.2.1 hw.2.2.2.2 isC hC q h) (va_free hw.2.1 hw.2.2.1 hw.2.2.2.2 isC hC) (fun q _ h => va_free hw.2.1 hw.2.2.1 hw.2.2.2.2 isC hC q h)
    (fun E ce q9 u t H1 locs1 ht _ _ hB _ hk1 hS1 hce hv hcl => kx E ce q9 H1 locs1 hB.1 (k_xans hw isC isR hC hR hn hdis ht hB.2 hk1 hS1) hce hv hcl)
    (fun r u t H1 locs1 ht _ hp hB _ hk1 hS1 => kk r u H1 locs1 hp (k_ans hw isC isR hC hR hn hdis ht hB hk1 hS1))
end KXC
end KX
