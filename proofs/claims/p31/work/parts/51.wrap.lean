/-! the law's own methods, which catch -/
def kYi {S : Type} (l : Launch) (y : MethodName) (wm : List Cond) (rm : Room) (D : va_G) (ty : List (ClassId × FieldType)) (As : List Value) (ws : va_W) (sz mc ms : Nat) (post : Int32 → S → Prop) (w : S → va_W) : Prop :=
  Met l y wm rm (kPx D ty As ws sz) (va_Qi post (kB D ty ws sz w) (va_A ws sz)) mc ms (va_A ws sz)
/-- a word of the start's tables: the class is itself -/
theorem kNG_cast {s : State} {args : Array Value} (h : ∀ w ∈ kNG, w.before #[] s = true) {E : String} (hE : E ∈ kE6) : (Cond.castable E E).before args s = true := by
  have h1 : (Cond.castable E E) ∈ kNG := List.mem_append_right _ (List.mem_map_of_mem (f := fun e => Cond.castable e e) hE)
  exact va_tabs (kNG_ot _ h1) rfl (h _ h1)
section KY
variable {p : Program} {l : Launch} {e : Env} {R : Room} {s : State} {m : MethodId} {args : Array Value} {below : List Frame} {meth : Method} {c : Code} {H : Heap} {locs : List Loc} {cells slots : Nat} {Q : State → Prop} {cc : ByteArray} {pc : Nat} {ls : Array Slot} {rest : List Value} {D : va_G} {ty : List (ClassId × FieldType)} {A : Nat → Prop} {ws : va_W} {a : Nat}
theorem k_ofY {y : MethodName} {wm wm' : List Cond} {rm : Room} {As : List Value} {sz : Nat} {Qc : Array Value → State → Outcome → State → Prop} {mc ms : Nat} {free : Addr → Prop} {maxL : Nat} {ret : Option FieldType} {lv : List (Nat × Value)} {hh : List (Nat × Nat × Nat × Nat)}
    (hy : plainName y.cls = true) (hwm : wm = Cond.codeWith y cc maxL ret hh :: wm') (hn : (lg_sl As).length ≤ maxL) (hlv : lv_args 0 As = lv)
    (body : ∀ (p : Program) (e : Env) (s : State) (m : MethodId) (args : Array Value) (below : List Frame) (meth : Method) (c : Code) (ls : Array Slot) (H : Heap) (locs : List Loc), kE p s m args meth c y.cls cc maxL ret wm → c.exceptionTable.toList = tableOf hh → sz = s.heap.size → kZ (va_A ws s.heap.size) s → kW D ty s (va_A ws s.heap.size) ws H locs → lv_has ls maxL lv →
      W p l e rm s m args below meth c H locs 0 0 (MQ below Qc args s mc ms free) (F0 m 0 ls [])) : Met l y wm rm (kPx D ty As ws sz) Qc mc ms free := by
  refine va_MetW (cc := cc) (maxL := maxL) (ret := ret) (hh := hh) hy hwm ?_
  intro p e s m args below meth c s₁ B hml hv
  obtain ⟨rfl, hsz, hP, hK, hD0, hz⟩ := hv
  have hex : c.exceptionTable.toList = tableOf hh := vx_table (x := y) B (atoms_spec (ws := wm) B.pre _ (by rw [hwm]; exact List.mem_cons_self))
  have hD := hD0.self (sz := s.heap.size)
  have hl := lv_entry As (n := maxL) hn
  rw [lg_entry_eq]
  rw [hlv] at hl
  exact body p e s m _ below meth c _ s.heap [] ⟨B.exec, B.bytes, B.returns, hml, findClass_of_methodNamed B.named, atoms_spec (ws := wm) B.pre, B.notSynchronized⟩ hex hsz.symm (by rw [← hsz] at hz; exact hz) ⟨hP, hD, va_S.rf, hK, fun q h => Or.inr h⟩ hl
/-- what was thrown is caught by the i-th entry, where those before it are of other classes -/
theorem k_catch {own E : String} {ce : Cell} {q : Addr} {A0 : Nat → Prop} {hh hp hs : List (Nat × Nat × Nat × Nat)} {x : Nat × Nat × Nat × Nat} (hex : c.exceptionTable.toList = tableOf hh) (hsp : hh = hp ++ x :: hs) (hown : s.vm.findClass own = some m.cls) (hZ : kZ A0 s) (hE : E ∈ kE6)
    (hpass : ∀ z ∈ tableOf hp, z.catchType ≠ 0 ∧ ∃ nm : String, (Cond.classLink own z.catchType nm).before args s = true ∧ (E, nm) ∈ kNcs) {X : ExceptionTableEntry} (hX : tableOf (x :: hs) = X :: tableOf hs) (hc : covers X pc = true) (h0 : X.catchType ≠ 0)
    (hlink : (Cond.classLink own X.catchType E).before args s = true) (hcell : H[q]? = some ce) (hv : ce.vm = .none) (hcl : s.vm.findClass E = some ce.cls)
    (kk : W p l e R s m args below meth c H locs cells slots Q (F0 m X.handlerPc ls [.ref q])) : vx_W p l e R s m args below meth c H locs cells slots Q (F0 m pc ls rest) q := by
  obtain ⟨z1, z2, z3, z4, z5⟩ := hZ
  refine vx_catch (E := E) (name := E) hown (tableOf hp) X (tableOf hs) ?_ (fun z hz => Or.inr ?_) hc h0 hlink (kNG_cast z3 hE) hcell hv hcl kk
  · rw [hex, hsp, ← hX]
    simp [tableOf]
  · obtain ⟨h1, nm, h2, h3⟩ := hpass z hz
    exact ⟨h1, nm, h2, z5 _ h3⟩
end KY
