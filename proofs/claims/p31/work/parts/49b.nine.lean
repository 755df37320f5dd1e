/-! what the law's own methods and its mill want of the start: the exceptions' things, and the nest mates' links -/
def kP9 (D : va_G) (ty : List (ClassId × FieldType)) (As : List Value) (ws : va_W) (sz : Nat) : Array Value → State → Prop :=
  va_Pc As (fun U => U.heap.size = sz ∧ va_P D vwCl ws U.heap ∧ va_K D vwCl ty U ∧ va_D (fun _ => True) ws ∧ kZ (va_A ws sz) U ∧ ∀ w ∈ kNe, va_Nw w U)
def k9i {S : Type} (l : Launch) (y : MethodName) (wm : List Cond) (rm : Room) (D : va_G) (ty : List (ClassId × FieldType)) (As : List Value) (ws : va_W) (sz mc ms : Nat) (post : Int32 → S → Prop) (w : S → va_W) : Prop :=
  Met l y wm rm (kP9 D ty As ws sz) (va_Qi post (kB D ty ws sz w) (va_A ws sz)) mc ms (va_A ws sz)
def kQr {S : Type} (D : va_G) (ty : List (ClassId × FieldType)) (ws : va_W) (sz : Nat) (post : S → Prop) (w : S → Nat → va_W) : Array Value → State → Outcome → State → Prop :=
  va_Qr post (fun (u : S) (a : Nat) => kB D ty ws sz (fun z : S × Nat => w z.1 z.2) (u, a)) (va_A ws sz)
def k9r {S : Type} (l : Launch) (y : MethodName) (wm : List Cond) (rm : Room) (D : va_G) (ty : List (ClassId × FieldType)) (As : List Value) (ws : va_W) (sz mc ms : Nat) (post : S → Prop) (w : S → Nat → va_W) : Prop :=
  Met l y wm rm (kP9 D ty As ws sz) (kQr D ty ws sz post w) mc ms (va_A ws sz)
def kMr {S : Type} (l : Launch) (y : MethodName) (wm : List Cond) (rm : Room) (D : va_G) (ty : List (ClassId × FieldType)) (As : List Value) (ws : va_W) (sz mc ms : Nat) (post : S → Prop) (w : S → Nat → va_W) : Prop :=
  Met l y wm rm (kPc D ty As ws sz) (kQr D ty ws sz post w) mc ms (va_A ws sz)
section K9
variable {p : Program} {l : Launch} {e : Env} {R : Room} {s : State} {m : MethodId} {args : Array Value} {below : List Frame} {meth : Method} {c : Code} {H : Heap} {locs : List Loc} {cells slots : Nat} {Q : State → Prop} {cc : ByteArray} {pc : Nat} {ls : Array Slot} {rest : List Value} {D : va_G} {ty : List (ClassId × FieldType)} {A : Nat → Prop} {ws : va_W} {a : Nat}
theorem kP9_blind {As : List Value} {sz : Nat} : FrameBlind (kP9 D ty As ws sz) := by
  intro a U g mk q
  obtain ⟨q0, q1, qP, qK, qD, ⟨z1, z2, z3, z4, z5⟩, qN⟩ := q
  refine ⟨q0, q1, qP, va_K.moved (u := U) (U := U.calling g mk a) (Vm.Alike.refl U.vm) qK, qD, ⟨vx_Zq.moved (u := U) (U := U.calling g mk a) (Vm.Alike.refl U.vm) z1, vx_Zq.moved (u := U) (U := U.calling g mk a) (Vm.Alike.refl U.vm) z2, kNG_moved (u := U) (U := U.calling g mk a) (Vm.Alike.refl U.vm) z3, fun q hq => ?_, fun q hq => va_Nc.moved (u := U) (U := U.calling g mk a) (Vm.Alike.refl U.vm) (z5 q hq)⟩, kNe_same (u := U) (U := U.calling g mk a) rfl qN⟩
  obtain ⟨sa, hs⟩ := z4 q hq
  exact ⟨sa, vk_R.same (u := U) (U := U.calling g mk a) rfl hs⟩
theorem k_of9 {y : MethodName} {wm wm' : List Cond} {rm : Room} {As : List Value} {sz : Nat} {Qc : Array Value → State → Outcome → State → Prop} {mc ms : Nat} {free : Addr → Prop} {maxL : Nat} {ret : Option FieldType} {lv : List (Nat × Value)}
    (hy : plainName y.cls = true) (hwm : wm = Cond.code y cc maxL ret :: wm') (hn : (lg_sl As).length ≤ maxL) (hlv : lv_args 0 As = lv)
    (body : ∀ (p : Program) (e : Env) (s : State) (m : MethodId) (args : Array Value) (below : List Frame) (meth : Method) (c : Code) (ls : Array Slot) (H : Heap) (locs : List Loc), kE p s m args meth c y.cls cc maxL ret wm → (∀ w ∈ kNe, va_Nw w s) → sz = s.heap.size → kZ (va_A ws s.heap.size) s → kW D ty s (va_A ws s.heap.size) ws H locs → lv_has ls maxL lv →
      W p l e rm s m args below meth c H locs 0 0 (MQ below Qc args s mc ms free) (F0 m 0 ls [])) : Met l y wm rm (kP9 D ty As ws sz) Qc mc ms free := by
  refine Met.ofW (cc := cc) (maxL := maxL) (ret := ret) hy hwm ?_
  intro p e s m args below meth c s₁ B hml hv
  obtain ⟨rfl, hsz, hP, hK, hD0, hz, hN⟩ := hv
  have hD := hD0.self (sz := s.heap.size)
  have hl := lv_entry As (n := maxL) hn
  rw [lg_entry_eq]
  rw [hlv] at hl
  exact body p e s m _ below meth c _ s.heap [] ⟨B.exec, B.bytes, B.returns, hml, findClass_of_methodNamed B.named, atoms_spec (ws := wm) B.pre, B.notSynchronized⟩ hN hsz.symm (by rw [← hsz] at hz; exact hz) ⟨hP, hD, va_S.rf, hK, fun q h => Or.inr h⟩ hl
theorem k_pre9 {As : List Value} {wc : va_W} (hN : ∀ w ∈ kNe, va_Nw w s) (hZ : kZ A s) (hw : kW D ty s A ws H locs) (isC : List Nat) (hndC : va_nd isC = true) (hC : isC.map (fun i => ws[i]?) = wc.map some) : PreS s H (kP9 D ty As wc H.size) As := by
  obtain ⟨hP, hD, hS, hK, hA⟩ := kW.pick hw isC hndC hC
  have hF := va_free hw.2.1 hw.2.2.1 hw.2.2.2.2 isC hC
  exact ⟨kP9_blind, fun U hU hW => ⟨rfl, by rw [hU], by rw [hU]; exact hP, va_K.moved hW.alike hK, hD.weaken (fun _ _ _ _ => trivial), hZ.to hW (fun q h1 h2 => by rw [hU]; exact hS.2.1 q h1 h2) hF, kNe_warm hW hN⟩⟩
theorem k_pre9V {b : Nat} {As : List Value} {wc : va_W} {C : String} {T : u_T} {N ci : Nat} {fs : List Value} (hN : ∀ w ∈ kNe, va_Nw w s) (hZ : kZ A s) (hw : kW D ty s A ws H locs) (isC : List Nat) (hndC : va_nd isC = true) (hC : isC.map (fun i => ws[i]?) = wc.map some) (q0 : Nat) (he : ws[q0]? = some (b, .inr (ci, fs))) (hc : vwCl[ci]? = some (C, T, N)) : PreV s H C b (kP9 D ty (.ref b :: As) wc H.size) As := by
  obtain ⟨h1, h2⟩ := k_pre9 (As := .ref b :: As) hN hZ hw isC hndC hC
  exact ⟨h1, va_recv hw.2.2.2.1 hw.1 hc he, h2⟩
theorem k_aret {S : Type} {post : S → Prop} {w : S → Nat → va_W} {ws0 : va_W} (u : S) (ra : Nat) (hx : p.tables.exec = Jvm.exec) (hb : c.code = cc) (hr : meth.sig.returnType = some (.array .int)) (hlocks : meth.locks = false)
    (hw : kW D ty s (va_A ws0 s.heap.size) (w u ra) H locs) (hpost : post u) (hdg : decode cc pc = .ok (.areturn, 1)) :
    W p l e R s m args below meth c H locs cells slots (MQ below (kQr D ty ws0 s.heap.size post w) args s cells slots (va_A ws0 s.heap.size)) (F0 m pc ls [.ref ra]) := by
  obtain ⟨hP, hD, hS, hK, -⟩ := hw
  exact W.aret (v := .ref ra) hx hb hr (Or.inr ⟨_, rfl⟩) (Or.inr ⟨ra, rfl⟩) (fun t ht hW => ⟨⟨u, ra, rfl, hpost, by rw [ht]; exact hP, va_K.moved hW.alike hK, hD⟩, hS.F ht⟩) hS.2.2 hdg hlocks
theorem k_getN {own C host : String} {T : u_T} {N ci index : Nat} {Ts : List Cond} (hx : p.tables.exec = Jvm.exec) (hb : c.code = cc) (hts : ∀ w ∈ Ts, w.before args s = true) (hin : ∀ w ∈ u_ws C T N, w ∈ Ts) (hown : s.vm.findClass own = some m.cls) (hw : kW D ty s A ws H locs) (q0 k : Nat) {fs : List Value} {v : Value} (he : ws[q0]? = some (a, .inr (ci, fs))) (hc : vwCl[ci]? = some (C, T, N)) (hk : k < N) (hlink : (Cond.fieldLinkNest own index (T k).1 (T k).2.1 (T k).2.2.1 host).before args s = true) (hv : fs[k]? = some v) (hdg : decode cc pc = .ok (.getfield index, 3))
    (kk : W p l e R s m args below meth c H locs cells slots Q (F0 m (pc + 3) ls (v :: rest))) : W p l e R s m args below meth c H locs cells slots Q (F0 m pc ls (.ref a :: rest)) :=
  va_getN hx hb hts hin hown hw.2.2.2.1 hw.1 q0 he hc k hk hlink (fun _ h => h) hv hdg kk
theorem k_putN {own C host : String} {T : u_T} {N ci index : Nat} {Ts : List Cond} {ws' : va_W} (hx : p.tables.exec = Jvm.exec) (hb : c.code = cc) (hts : ∀ w ∈ Ts, w.before args s = true) (hin : ∀ w ∈ u_ws C T N, w ∈ Ts) {ty0 : Nat → FieldType} (hty : ∀ k, k < N → parseFieldDescriptor (T k).2.2.1 = some (ty0 k)) (hnm : ∀ a, a < N → ∀ b, b < N → a ≠ b → (T a).2.1 ≠ (T b).2.1) (hown : s.vm.findClass own = some m.cls) (hw : kW D ty s A ws H locs) (q0 k : Nat) {fs : List Value} {v : Value} (he : ws[q0]? = some (a, .inr (ci, fs))) (hc : vwCl[ci]? = some (C, T, N)) (hk : k < N) (hlink : (Cond.fieldLinkNest own index (T k).1 (T k).2.1 (T k).2.2.1 host).before args s = true) (hfin : (T k).2.2.2 = false) (hn : narrow (ty0 k) v = v) (hfit : fits (ty0 k) v = true) (hl : k < fs.length) (hws : ws.set q0 (a, .inr (ci, fs.set k v)) = ws') (hdg : decode cc pc = .ok (.putfield index, 3))
    (kk : ∀ (H1 : Heap) (locs1 : List Loc), kW D ty s A ws' H1 locs1 → W p l e R s m args below meth c H1 locs1 cells slots Q (F0 m (pc + 3) ls rest)) : W p l e R s m args below meth c H locs cells slots Q (F0 m pc ls (v :: .ref a :: rest)) := by
  subst hws
  exact va_putN hx hb hts hin ty0 hty hnm hown hw.2.2.2.1 hw.1 hw.2.1 hw.2.2.1 q0 he hc k hk hlink (fun _ h => h) hfin (hty k hk) hn hfit hl hdg (fun H1 locs1 h1 h2 h3 => kk H1 locs1 ⟨h1, h2, h3, hw.2.2.2⟩)
theorem k_zald (hx : p.tables.exec = Jvm.exec) (hb : c.code = cc) (hw : kW D ty s A ws H locs) (q0 t0 : Nat) {cA : ClassId} {n : Nat} {f : Nat → Int32} (ha : ws[q0]? = some (a, .inl (cA, n, .inl f))) (ht : ty[t0]? = some (cA, .boolean)) {i : Int32} (j : Nat) (hi : i = nI j) (hj : j < n) (hn : n < 2 ^ 31) (hdg : decode cc pc = .ok (.baload, 1))
    (kk : W p l e R s m args below meth c H locs cells slots Q (F0 m (pc + 1) ls (.int (f j) :: rest))) : W p l e R s m args below meth c H locs cells slots Q (F0 m pc ls (.int i :: .ref a :: rest)) := by
  obtain ⟨h1, h2⟩ := k_in hi hj hn
  exact va_zald hx hb hw.2.2.2.1 hw.1 q0 t0 ha ht h1 hdg (by rw [h2]; exact kk)
theorem k_zast {ws' : va_W} (hx : p.tables.exec = Jvm.exec) (hb : c.code = cc) (hw : kW D ty s A ws H locs) (q0 t0 : Nat) {cA : ClassId} {n : Nat} {f : Nat → Int32} (ha : ws[q0]? = some (a, .inl (cA, n, .inl f))) (ht : ty[t0]? = some (cA, .boolean)) {i x : Int32} (j : Nat) (hi : i = nI j) (hj : j < n) (hn : n < 2 ^ 31) (hx2 : vp_nar .boolean x = x) (hws : ws.set q0 (a, .inl (cA, n, .inl (upd f j x))) = ws') (hdg : decode cc pc = .ok (.bastore, 1))
    (kk : ∀ (H1 : Heap) (locs1 : List Loc), kW D ty s A ws' H1 locs1 → W p l e R s m args below meth c H1 locs1 cells slots Q (F0 m (pc + 1) ls rest)) : W p l e R s m args below meth c H locs cells slots Q (F0 m pc ls (.int x :: .int i :: .ref a :: rest)) := by
  obtain ⟨h1, h2⟩ := k_in hi hj hn
  subst hws
  exact va_zast hx hb hw.2.2.2.1 hw.1 hw.2.1 hw.2.2.1 q0 t0 ha ht h1 hdg (fun H1 locs1 g1 g2 g3 => kk H1 locs1 (by rw [h2, hx2] at g1 g2; exact ⟨g1, g2, g3, hw.2.2.2⟩))
section K9C
variable {Ts wm : List Cond} {bytes : ByteArray} {nL maxL index n mc ms : Nat} {own C host : String} {y : MethodName} {ret : Option FieldType} {rm : Room} {b : Addr} {As : List Value} {st0 : List Value} {S : Type} {wc wr : va_W}
theorem k_run9V {Qc : Array Value → State → Outcome → State → Prop} {free : Addr → Prop} {T : u_T} {N ci : Nat} {fs : List Value} (hS : CallFix p m c cc nL s args Ts own) (hM : Met l y wm rm (kP9 D ty (.ref b :: As) wc H.size) Qc mc ms free) (cw : CallW R s args own C index y bytes maxL ret wm rm mc ms n) (hN : ∀ w ∈ kNe, va_Nw w s) (hZ : kZ A s) (hw : kW D ty s A ws H locs) (isC : List Nat) (hndC : va_nd isC = true) (hC : isC.map (fun i => ws[i]?) = wc.map some) (q0 : Nat) (he : ws[q0]? = some (b, .inr (ci, fs))) (hc : vwCl[ci]? = some (C, T, N))
    (hn : As.length = n) (hsize : ls.size = nL) (hst : st0 = As.reverse ++ .ref b :: rest) (hrest : (rest.map fun v => v.category).sum ≤ 8) (hdg : decode cc pc = .ok (.invokevirtual index, 3)) (hf : cells + mc ≤ R.cells ∧ slots + ms ≤ R.slots) :
    va_Run p l e R s m args below meth c H locs cells slots mc ms (F0 m pc ls st0) rest (Qc (Value.ref b :: As).toArray) free :=
  va_runV hS hM cw (k_pre9V hN hZ hw isC hndC hC q0 he hc) rfl hn hsize hst (lv_room hrest) hdg hf
theorem k_run9S {Qc : Array Value → State → Outcome → State → Prop} {free : Addr → Prop} (hS : CallFix p m c cc nL s args Ts own) (hM : Met l y wm rm (kP9 D ty As wc H.size) Qc mc ms free) (cw : CallB R s args own index y bytes maxL ret wm rm mc ms n ∧ (Cond.static y).before args s = true) (hN : ∀ w ∈ kNe, va_Nw w s) (hZ : kZ A s) (hw : kW D ty s A ws H locs) (isC : List Nat) (hndC : va_nd isC = true) (hC : isC.map (fun i => ws[i]?) = wc.map some)
    (hn : As.length = n) (hsize : ls.size = nL) (hst : st0 = As.reverse ++ rest) (hrest : (rest.map fun v => v.category).sum ≤ 8) (hdg : decode cc pc = .ok (.invokestatic index, 3)) (hf : cells + mc ≤ R.cells ∧ slots + ms ≤ R.slots) :
    va_Run p l e R s m args below meth c H locs cells slots mc ms (F0 m pc ls st0) rest (Qc As.toArray) free :=
  va_runS hS hM cw (k_pre9 hN hZ hw isC hndC hC) rfl hn hsize hst (lv_room hrest) hdg hf
theorem k_runSN {Qc : Array Value → State → Outcome → State → Prop} {free : Addr → Prop} (hS : CallFix p m c cc nL s args Ts own) (hM : Met l y wm rm (kPc D ty As wc H.size) Qc mc ms free) (cw : va_CN R s args own index y host bytes maxL ret wm rm mc ms n ∧ (Cond.static y).before args s = true ∧ True) (hw : kW D ty s A ws H locs) (isC : List Nat) (hndC : va_nd isC = true) (hC : isC.map (fun i => ws[i]?) = wc.map some)
    (hn : As.length = n) (hsize : ls.size = nL) (hst : st0 = As.reverse ++ rest) (hrest : (rest.map fun v => v.category).sum ≤ 8) (hdg : decode cc pc = .ok (.invokestatic index, 3)) (hf : cells + mc ≤ R.cells ∧ slots + ms ≤ R.slots) :
    va_Run p l e R s m args below meth c H locs cells slots mc ms (F0 m pc ls st0) rest (Qc As.toArray) free :=
  va_runSN hS hM cw (k_pre hw isC hndC hC) rfl hn hsize hst (lv_room hrest) hdg hf
theorem k_callr {post : S → Prop} {w : S → Nat → va_W} {aa : Array Value} (hr : va_Run p l e R s m args below meth c H locs cells slots mc ms (F0 m pc ls st0) rest (kQr D ty wc H.size post w aa) (va_A wc H.size)) (hw : kW D ty s A ws H locs) (isC isR : List Nat) (hC : isC.map (fun i => ws[i]?) = wc.map some) (hR : isR.map (fun i => ws[i]?) = wr.map some) (hn : va_nd isR = true) (hdis : ∀ i ∈ isR, i ∉ isC)
    (kk : ∀ (ra : Nat) (u : S) (H1 : Heap) (locs1 : List Loc), post u → kW D ty s A (wr ++ w u ra) H1 locs1 → W p l e R s m args below meth c H1 locs1 (cells + mc) (slots + ms) Q (F0 m (pc + 3) ls (.ref ra :: rest))) : W p l e R s m args below meth c H locs cells slots Q (F0 m pc ls st0) :=
  va_callr hr hw.2.2.1 (fun q _ h => va_free hw.2.1 hw.2.2.1 hw.2.2.2.2 isC hC q h) (va_free hw.2.1 hw.2.2.1 hw.2.2.2.2 isC hC) (fun u ra t H1 locs1 ht _ hp hB _ hk1 hS1 => kk ra u H1 locs1 hp (k_ans (w := fun z : S × Nat => w z.1 z.2) (u := (u, ra)) hw isC isR hC hR hn hdis ht hB hk1 hS1))
end K9C
end K9
