section
-- ===== PART A: goes FIRST, ahead of the names: the tables' words, and 'selects' of the private methods out of them =====
/-- a private method of a class that the tables say can be made, by its rows of tables_1 -/
def lw_okq (q : MethodName × Nat) : Prop := (q.1.cls ≠ "java/lang/invoke/MethodHandle" ∧ q.1.cls ≠ "java/lang/invoke/VarHandle") ∧ Cond.instantiable q.1.cls q.2 ∈ tables_1 ∧ Cond.privateMethod q.1 ∈ tables_1 ∧ Cond.instanceMethod q.1 ∈ tables_1
theorem lw_p0 : lw_okq (⟨"PaperMachine", "isWeightTaken", "(I)Z"⟩, 13) := ⟨⟨by decide +kernel, by decide +kernel⟩, List.mem_of_getElem? (i := 22) (by decide +kernel), List.mem_of_getElem? (i := 246) (by decide +kernel), List.mem_of_getElem? (i := 247) (by decide +kernel)⟩
theorem lw_p1 : lw_okq (⟨"java/lang/Throwable", "fillInStackTrace", "(I)Ljava/lang/Throwable;"⟩, 6) := ⟨⟨by decide +kernel, by decide +kernel⟩, List.mem_of_getElem? (i := 292) (by decide +kernel), List.mem_of_getElem? (i := 290) (by decide +kernel), List.mem_of_getElem? (i := 291) (by decide +kernel)⟩
theorem lw_p2 : lw_okq (⟨"PaperMachine", "isGrade", "(I)Z"⟩, 13) := ⟨⟨by decide +kernel, by decide +kernel⟩, List.mem_of_getElem? (i := 22) (by decide +kernel), List.mem_of_getElem? (i := 385) (by decide +kernel), List.mem_of_getElem? (i := 386) (by decide +kernel)⟩
theorem lw_p3 : lw_okq (⟨"PaperMachine", "nearestWaiting", "(IZ)I"⟩, 13) := ⟨⟨by decide +kernel, by decide +kernel⟩, List.mem_of_getElem? (i := 22) (by decide +kernel), List.mem_of_getElem? (i := 438) (by decide +kernel), List.mem_of_getElem? (i := 439) (by decide +kernel)⟩
theorem lw_p4 : lw_okq (⟨"PaperMachine", "massOfAnHour", "(I)I"⟩, 13) := ⟨⟨by decide +kernel, by decide +kernel⟩, List.mem_of_getElem? (i := 22) (by decide +kernel), List.mem_of_getElem? (i := 454) (by decide +kernel), List.mem_of_getElem? (i := 455) (by decide +kernel)⟩
theorem lw_p5 : lw_okq (⟨"PaperMachine$Cutter", "keepIfGreater", "(I)V"⟩, 8) := ⟨⟨by decide +kernel, by decide +kernel⟩, List.mem_of_getElem? (i := 59) (by decide +kernel), List.mem_of_getElem? (i := 546) (by decide +kernel), List.mem_of_getElem? (i := 547) (by decide +kernel)⟩
theorem lw_p6 : lw_okq (⟨"PaperMachine$Cutter", "addRollToTable", "(I)V"⟩, 8) := ⟨⟨by decide +kernel, by decide +kernel⟩, List.mem_of_getElem? (i := 59) (by decide +kernel), List.mem_of_getElem? (i := 564) (by decide +kernel), List.mem_of_getElem? (i := 565) (by decide +kernel)⟩
theorem lw_p7 : lw_okq (⟨"PaperMachine", "passAnHour", "()I"⟩, 13) := ⟨⟨by decide +kernel, by decide +kernel⟩, List.mem_of_getElem? (i := 22) (by decide +kernel), List.mem_of_getElem? (i := 615) (by decide +kernel), List.mem_of_getElem? (i := 616) (by decide +kernel)⟩
theorem lw_p8 : lw_okq (⟨"PaperMachine", "make", "(CII)V"⟩, 13) := ⟨⟨by decide +kernel, by decide +kernel⟩, List.mem_of_getElem? (i := 22) (by decide +kernel), List.mem_of_getElem? (i := 627) (by decide +kernel), List.mem_of_getElem? (i := 628) (by decide +kernel)⟩
theorem lw_p9 : lw_okq (⟨"PaperMachineModel", "hasWeight", "(I)Z"⟩, 29) := ⟨⟨by decide +kernel, by decide +kernel⟩, List.mem_of_getElem? (i := 693) (by decide +kernel), List.mem_of_getElem? (i := 798) (by decide +kernel), List.mem_of_getElem? (i := 799) (by decide +kernel)⟩
theorem lw_p10 : lw_okq (⟨"PaperMachineModel", "goesOn", "(I)Z"⟩, 29) := ⟨⟨by decide +kernel, by decide +kernel⟩, List.mem_of_getElem? (i := 693) (by decide +kernel), List.mem_of_getElem? (i := 802) (by decide +kernel), List.mem_of_getElem? (i := 803) (by decide +kernel)⟩
theorem lw_p11 : lw_okq (⟨"PaperMachineModel", "isGrade", "(I)Z"⟩, 29) := ⟨⟨by decide +kernel, by decide +kernel⟩, List.mem_of_getElem? (i := 693) (by decide +kernel), List.mem_of_getElem? (i := 814) (by decide +kernel), List.mem_of_getElem? (i := 815) (by decide +kernel)⟩
theorem lw_p12 : lw_okq (⟨"PaperMachineModel", "nextFrom", "(IZ)I"⟩, 29) := ⟨⟨by decide +kernel, by decide +kernel⟩, List.mem_of_getElem? (i := 693) (by decide +kernel), List.mem_of_getElem? (i := 830) (by decide +kernel), List.mem_of_getElem? (i := 831) (by decide +kernel)⟩
theorem lw_p13 : lw_okq (⟨"PaperMachineModel", "hasOrders", "(I)Z"⟩, 29) := ⟨⟨by decide +kernel, by decide +kernel⟩, List.mem_of_getElem? (i := 693) (by decide +kernel), List.mem_of_getElem? (i := 834) (by decide +kernel), List.mem_of_getElem? (i := 835) (by decide +kernel)⟩
theorem lw_p14 : lw_okq (⟨"PaperMachineModel", "massOf", "(I)I"⟩, 29) := ⟨⟨by decide +kernel, by decide +kernel⟩, List.mem_of_getElem? (i := 693) (by decide +kernel), List.mem_of_getElem? (i := 842) (by decide +kernel), List.mem_of_getElem? (i := 843) (by decide +kernel)⟩
theorem lw_p15 : lw_okq (⟨"PaperMachineModel", "isOrder", "(I)Z"⟩, 29) := ⟨⟨by decide +kernel, by decide +kernel⟩, List.mem_of_getElem? (i := 693) (by decide +kernel), List.mem_of_getElem? (i := 854) (by decide +kernel), List.mem_of_getElem? (i := 855) (by decide +kernel)⟩
def lw_privs_1 : List (MethodName × Nat) := [(⟨"PaperMachine", "isWeightTaken", "(I)Z"⟩, 13), (⟨"java/lang/Throwable", "fillInStackTrace", "(I)Ljava/lang/Throwable;"⟩, 6), (⟨"PaperMachine", "isGrade", "(I)Z"⟩, 13), (⟨"PaperMachine", "nearestWaiting", "(IZ)I"⟩, 13), (⟨"PaperMachine", "massOfAnHour", "(I)I"⟩, 13), (⟨"PaperMachine$Cutter", "keepIfGreater", "(I)V"⟩, 8), (⟨"PaperMachine$Cutter", "addRollToTable", "(I)V"⟩, 8), (⟨"PaperMachine", "passAnHour", "()I"⟩, 13), (⟨"PaperMachine", "make", "(CII)V"⟩, 13), (⟨"PaperMachineModel", "hasWeight", "(I)Z"⟩, 29), (⟨"PaperMachineModel", "goesOn", "(I)Z"⟩, 29), (⟨"PaperMachineModel", "isGrade", "(I)Z"⟩, 29), (⟨"PaperMachineModel", "nextFrom", "(IZ)I"⟩, 29), (⟨"PaperMachineModel", "hasOrders", "(I)Z"⟩, 29), (⟨"PaperMachineModel", "massOf", "(I)I"⟩, 29), (⟨"PaperMachineModel", "isOrder", "(I)Z"⟩, 29)]
theorem lw_r1 : ∀ q ∈ lw_privs_1, lw_okq q := List.forall_mem_cons.mpr ⟨lw_p0, List.forall_mem_cons.mpr ⟨lw_p1, List.forall_mem_cons.mpr ⟨lw_p2, List.forall_mem_cons.mpr ⟨lw_p3, List.forall_mem_cons.mpr ⟨lw_p4, List.forall_mem_cons.mpr ⟨lw_p5, List.forall_mem_cons.mpr ⟨lw_p6, List.forall_mem_cons.mpr ⟨lw_p7, List.forall_mem_cons.mpr ⟨lw_p8, List.forall_mem_cons.mpr ⟨lw_p9, List.forall_mem_cons.mpr ⟨lw_p10, List.forall_mem_cons.mpr ⟨lw_p11, List.forall_mem_cons.mpr ⟨lw_p12, List.forall_mem_cons.mpr ⟨lw_p13, List.forall_mem_cons.mpr ⟨lw_p14, List.forall_mem_cons.mpr ⟨lw_p15, fun _ h => absurd h List.not_mem_nil⟩⟩⟩⟩⟩⟩⟩⟩⟩⟩⟩⟩⟩⟩⟩⟩
theorem lw_p16 : lw_okq (⟨"PaperMachineModel", "looks", "(I)I"⟩, 29) := ⟨⟨by decide +kernel, by decide +kernel⟩, List.mem_of_getElem? (i := 693) (by decide +kernel), List.mem_of_getElem? (i := 870) (by decide +kernel), List.mem_of_getElem? (i := 871) (by decide +kernel)⟩
theorem lw_p17 : lw_okq (⟨"PaperMachineModel", "tries", "(IIII)V"⟩, 29) := ⟨⟨by decide +kernel, by decide +kernel⟩, List.mem_of_getElem? (i := 693) (by decide +kernel), List.mem_of_getElem? (i := 874) (by decide +kernel), List.mem_of_getElem? (i := 875) (by decide +kernel)⟩
theorem lw_p18 : lw_okq (⟨"PaperMachineModel", "passesOne", "()I"⟩, 29) := ⟨⟨by decide +kernel, by decide +kernel⟩, List.mem_of_getElem? (i := 693) (by decide +kernel), List.mem_of_getElem? (i := 903) (by decide +kernel), List.mem_of_getElem? (i := 904) (by decide +kernel)⟩
theorem lw_p19 : lw_okq (⟨"PaperMachineModel", "makes", "(II)V"⟩, 29) := ⟨⟨by decide +kernel, by decide +kernel⟩, List.mem_of_getElem? (i := 693) (by decide +kernel), List.mem_of_getElem? (i := 907) (by decide +kernel), List.mem_of_getElem? (i := 908) (by decide +kernel)⟩
theorem lw_p20 : lw_okq (⟨"PaperMachineModel", "cuts", "()I"⟩, 29) := ⟨⟨by decide +kernel, by decide +kernel⟩, List.mem_of_getElem? (i := 693) (by decide +kernel), List.mem_of_getElem? (i := 911) (by decide +kernel), List.mem_of_getElem? (i := 912) (by decide +kernel)⟩
def lw_privs_2 : List (MethodName × Nat) := [(⟨"PaperMachineModel", "looks", "(I)I"⟩, 29), (⟨"PaperMachineModel", "tries", "(IIII)V"⟩, 29), (⟨"PaperMachineModel", "passesOne", "()I"⟩, 29), (⟨"PaperMachineModel", "makes", "(II)V"⟩, 29), (⟨"PaperMachineModel", "cuts", "()I"⟩, 29)]
theorem lw_r2 : ∀ q ∈ lw_privs_2, lw_okq q := List.forall_mem_cons.mpr ⟨lw_p16, List.forall_mem_cons.mpr ⟨lw_p17, List.forall_mem_cons.mpr ⟨lw_p18, List.forall_mem_cons.mpr ⟨lw_p19, List.forall_mem_cons.mpr ⟨lw_p20, fun _ h => absurd h List.not_mem_nil⟩⟩⟩⟩⟩
def lw_privs : List (MethodName × Nat) := lw_privs_1 ++ (lw_privs_2)
def lw_tbl : List Cond := k2_sels lw_privs ++ tables_1
theorem lw_privs_ok : ∀ q ∈ lw_privs, lw_okq q := by
  show ∀ q ∈ lw_privs_1 ++ (lw_privs_2), lw_okq q
  exact List.forall_mem_append.mpr ⟨lw_r1, lw_r2⟩
/-- the streams that the claim lets the run draw from -/
abbrev lw_cs : List Choice := [Jvm.Choice.named "NaN.bits"]
theorem lw_bits : nanBits ∈ lw_cs := by first | decide | exact List.mem_cons_self | simp [lw_cs, nanBits]
end
section
/-! ===== BEGIN words of one list among another's, by their places ===== -/
theorem goodIn_r {big : List Cond} (ws : List Cond) (ps : List Nat) (hp : ws = ps.filterMap (fun i => big[i]?)) (h : ws.all goodWord = true) : GoodIn big ws := by
  intro w hw
  have h1 := List.all_eq_true.mp h w hw
  rw [hp] at hw
  obtain ⟨i, -, hi⟩ := List.mem_filterMap.mp hw
  have hm : w ∈ big := by first | exact List.mem_of_getElem? hi | exact List.getElem?_mem hi
  exact ⟨hm, good_of_word h1⟩
theorem goodIn_app {big a b : List Cond} (ha : GoodIn big a) (hb : GoodIn big b) : GoodIn big (a ++ b) := fun w h => (List.mem_append.mp h).elim (ha w) (hb w)
theorem goodIn_ca {big a b : List Cond} {c : Cond} (ha : GoodIn big (c :: a)) (hb : GoodIn big b) : GoodIn big (c :: (a ++ b)) := fun w h => (List.mem_cons.mp h).elim (fun e => ha w (List.mem_cons.mpr (Or.inl e))) (fun h => (List.mem_append.mp h).elim (fun h => ha w (List.mem_cons.mpr (Or.inr h))) (hb w))
theorem goodIn_sub {big ws : List Cond} (hm : ∀ w ∈ ws, w ∈ big) (h : ws.all goodWord = true) : GoodIn big ws := fun w hw => ⟨hm w hw, good_of_word (List.all_eq_true.mp h w hw)⟩
/-! ===== END ===== -/

/-! ===== BEGIN exceptions that leave a method, and their catching by the caller (launches without stack traces) ===== -/
section VXA
/-! The laws vx_back, vx_callV, vx_callS, vx_callSW, vx_throw0, vx_throwS follow proofs of the library, with one case more: JvmDerived/Free/Laws.lean (Back.of_free), Shelf42/LK1.lean (callV, callS), Shelf/KitTraced.lean (throwNew0V, throwNewS). -/
/-- where a method has thrown q: the class by its name, the cell, what was written, the world -/
def vx_T (XC : String → State → State → Prop) (st : State) (q : Addr) (t : State) (mc ms : Nat) (free : Addr → Prop) : Prop :=
  ∃ (E : String) (ce : Cell) (L : List Loc), XC E st t ∧ t.heap[q]? = some ce ∧ ce.vm = .none ∧ st.vm.findClass E = some ce.cls ∧ st.WarmedH t.vm ∧ st.sameButNew ({ t with vm := st.vm } : State) L mc ms ∧ ∀ z ∈ L, free z.base
def vx_Q (Qc : Array Value → State → Outcome → State → Prop) (XC : String → State → State → Prop) (mc ms : Nat) (free : Addr → Prop) : Array Value → State → Outcome → State → Prop := fun a st o t =>
  (Qc a st o t ∧ ∃ L, FrameEnd st o t L mc ms ∧ ∀ q ∈ L, free q.base) ∨ ∃ q, o = .threw q ∧ vx_T XC st q t mc ms free
/-- a callee that returns or throws -/
def vx_Met (l : Launch) (y : MethodName) (ws : List Cond) (rm : Room) (Pc : Array Value → State → Prop) (Qc : Array Value → State → Outcome → State → Prop) (XC : String → State → State → Prop) (mc ms : Nat) (free : Addr → Prop) : Prop :=
  MetFree l y (headSpec ws rm) Pc (fun _ _ _ _ _ => True) (vx_Q Qc XC mc ms free)
def vx_Post (XC : String → State → State → Prop) (mc ms : Nat) (free : Addr → Prop) : Pt → Array Value → Addr → Pt → Prop := fun A a q B =>
  ∃ (g : JFrame) (mk : MethodId) (t : State) (L : List Loc) (E : String) (ce : Cell), B.U.heap = t.heap ∧ B.U.vm = t.vm ∧ XC E (A.U.calling g mk a) t ∧ t.heap[q]? = some ce ∧ ce.vm = .none ∧ A.U.vm.findClass E = some ce.cls ∧ B.locs = A.locs ++ L ∧ (∀ z ∈ L, free z.base) ∧ B.cells = A.cells + mc ∧ B.slots = A.slots + ms
def vx_Back (l : Launch) (R : Room) (p : Program) (e : Env) (below : List Frame) (s : State) (sargs : Array Value) (y : MethodName) (len W9 : Nat)
    (Pre : Pt → Array Value → Prop) (Post : Pt → Array Value → Option Value → Pt → Prop) (PostX : Pt → Array Value → Addr → Pt → Prop) : Prop :=
  ∀ (m : MethodId) (meth : Method) (c : Code) (A : Pt) (g : JFrame) (ig : Instr) (mk : MethodId) (a : Array Value),
    Stand p l e R s m sargs below meth c A.U A.locs A.cells A.slots → g.method = m → g.locals.size = c.maxLocals → decode c.code g.pc = .ok (ig, len) →
    2 * g.monitorRoom + (g.stack.map fun v => v.category).sum ≤ W9 → A.U.methodNamed? y = some mk → Pre A a →
    (∃ (v : Option Value) (B : Pt), Stand p l e R s m sargs below meth c B.U B.locs B.cells B.slots ∧ Post A a v B ∧
      Steps p.tables e below (doInvoke e (A.U.setTop g) [] mk a).1 (B.U.setTop { g with pc := g.pc + len, stack := v.toList ++ g.stack })) ∨
    (∃ (q : Addr) (B : Pt), Stand p l e R s m sargs below meth c B.U B.locs B.cells B.slots ∧ PostX A a q B ∧
      Steps p.tables e below (doInvoke e (A.U.setTop g) [] mk a).1 ((B.U.setTop g).pushFrame (.throwing q)))
section Payer
variable {l : Launch} {R : Room} {p : Program} {e : Env} {below : List Frame} {s : State} {sargs : Array Value} {y : MethodName} {len W9 : Nat}
theorem vx_back {ws : List Cond} {rm : Room} {Pc : Array Value → State → Prop} {Qc : Array Value → State → Outcome → State → Prop} {XC : String → State → State → Prop} {mc ms : Nat} {free : Addr → Prop} {bytes : ByteArray} {maxL : Nat} {ret : Option FieldType}
    (hM : vx_Met l y ws rm Pc Qc XC mc ms free) (hblind : FrameBlind Pc) (hrc : rm.cells = mc) (hrs : rm.slots = ms)
    (hframes : rm.frames + 1 ≤ R.frames) (hlocals : W9 + (maxL + 11) + rm.locals ≤ R.locals)
    (hws : ∀ w ∈ ws, ∀ a' U, s.WarmedH U.vm → w.before a' U = true) (hcode : Cond.code y bytes maxL ret ∈ ws) (hinit : ∀ a' U, s.WarmedH U.vm → (Cond.initialized y.cls).before a' U = true) :
    vx_Back l R p e below s sargs y len W9 (PreOf R mc ms Pc) (PostOf Qc mc ms free) (vx_Post XC mc ms free) := by
  intro m meth c A g ig mk a X hg hsize hdg hW hn hp
  have h1 : (headSpec ws rm).pre.before a A.U = true := atoms_intro fun w hw => hws w hw _ _ X.warmed
  have h2 : (Cond.code y bytes maxL ret).before a A.U = true := hws _ hcode _ _ X.warmed
  have h3 : (Cond.initialized y.cls).before a A.U = true := hinit _ _ X.warmed
  have h4 : A.cells + (headSpec ws rm).room.cells ≤ R.cells := by rw [show (headSpec ws rm).room.cells = mc from hrc]; exact hp.1
  have h5 : A.slots + (headSpec ws rm).room.slots ≤ R.slots := by rw [show (headSpec ws rm).room.slots = ms from hrs]; exact hp.2.1
  have hPc : Pc a (A.U.calling g mk a) := hblind _ _ _ _ hp.2.2
  obtain ⟨U, Ls, c0, s0⟩ := A
  dsimp only [Pt.U, Pt.locs, Pt.cells, Pt.slots] at h1 h2 h3 h4 h5 X hn hPc ⊢
  obtain ⟨methY, cY, hmY, hcY, -, hlY, -, -, -, -⟩ := Cond.code_spec hn h2
  obtain ⟨kY, hkY, -⟩ := className_of_methodNamed hn
  have hinitY : kY.init = .initialized := Cond.initialized_spec (findClass_of_methodNamed hn) hkY h3
  have h : At U g.method c below := by rw [hg]; exact X.here
  have hlocals9 : W9 + (maxL + 11) + (headSpec ws rm).room.locals ≤ R.locals := hlocals
  have happ : (headSpec ws rm).appliesLoose y e.platform (U.calling g mk a) = true :=
    Spec.appliesLoose_calling (g := g) h hdg hn hkY hinitY
      (X.room_calling (g := g) (R' := (headSpec ws rm).room) hsize hmY hcY hframes (by rw [hlY]; omega) h4 h5) h1
  obtain ⟨mid, hmid⟩ := h.above
  have hfr : (U.setTop g).frames = (.java g :: mid) ++ below := by rw [State.frames_setTop' g h.top, hmid]; rfl
  obtain ⟨o, s₂, hsteps, -, hend, hq⟩ := Steps.callFree hM p X.admits X.cas X.clock (acts := []) hfr happ hPc trivial
  have hq' : vx_Q Qc XC mc ms free a (U.calling g mk a) o s₂ := hq
  rw [State.frames_setTop' g h.top] at hend
  obtain ⟨g₀, hg0⟩ := Option.isSome_iff_exists.mp h.top
  obtain ⟨r, hr⟩ := State.topJava?_eq_some.mp hg0
  have hr' : (({ U with heap := s₂.heap, slotsUsed := s₂.slotsUsed } : State).setVm s₂.vm).frames = .java g₀ :: r := hr
  rcases hq' with ⟨hqc, L, hfe, hL⟩ | ⟨q, rfl, E, ce, L, hx, hce, hcv, hcl, hW₂, hsm, hL⟩
  · obtain ⟨⟨v, rfl⟩, hW₂, e2, q2, q3, q4, q5, q6⟩ := id hfe
    have e3 : s₂ = ({ (U.calling g mk a).setFrames s₂.frames with heap := s₂.heap, slotsUsed := s₂.slotsUsed } : State).setVm s₂.vm := by
      have : s₂ = ({ s₂ with vm := (U.calling g mk a).vm } : State).setVm s₂.vm := rfl
      rw [e2] at this
      exact this
    obtain ⟨c₂, i₂, len₂, hc₂, hd₂, hf₂⟩ := hend
    have hW' : U.WarmedH s₂.vm := hW₂
    have hcc : c₂ = c := by
      have h1 : s₂.code? g.method = U.code? g.method := by
        rw [State.code?_eq, State.code?_eq, hW'.alike.method?]
      exact Option.some.inj (hc₂.symm.trans (h1.trans h.code))
    subst hcc
    have hlen : len₂ = len := by rw [hdg] at hd₂; cases hd₂; rfl
    subst hlen
    have hs₂ : s₂ = (({ U with heap := s₂.heap, slotsUsed := s₂.slotsUsed } : State).setVm s₂.vm).setTop { g with pc := g.pc + len₂, stack := v.toList ++ g.stack } := by
      refine e3.trans ?_
      rw [hf₂, State.calling_eq h.top, State.setFrames_setFrames, State.setTop_of_frames _ hr', hr]
      rfl
    have hsame : U.sameButNew ({ U with heap := s₂.heap, slotsUsed := s₂.slotsUsed } : State) L mc ms := by
      refine ⟨?_, q2, q3, q4, q5, q6⟩
      obtain ⟨t, ht, -⟩ := State.frames_cons hr
      show ({ U with heap := s₂.heap, slotsUsed := s₂.slotsUsed } : State) = { U.setFrames U.frames with heap := s₂.heap, slotsUsed := s₂.slotsUsed }
      rw [State.setFrames_self ht]
    subst hg
    refine Or.inl ⟨v, ⟨(({ U with heap := s₂.heap, slotsUsed := s₂.slotsUsed } : State).setVm s₂.vm), Ls ++ L, c0 + mc, s0 + ms⟩,
      ⟨X.admits, X.cas, X.clock, X.frames, X.room, X.hears, X.method, X.code, (X.here.setHeapUsed s₂.heap s₂.slotsUsed).setVm hW'.alike, X.tail, State.WarmedH.trans X.warmed hW', X.limits, X.bytes, X.same.trans (hsame.setVm s.vm)⟩,
      ⟨g, mk, s₂, L, rfl, rfl, hqc, rfl, hL, rfl, rfl⟩, ?_⟩
    show Steps p.tables e below _ ((({ U with heap := s₂.heap, slotsUsed := s₂.slotsUsed } : State).setVm s₂.vm).setTop { g with pc := g.pc + len₂, stack := v.toList ++ g.stack })
    rw [← hs₂]
    exact hsteps
  · obtain ⟨e2, q2, q3, q4, q5, q6⟩ := id hsm
    have e3 : s₂ = ({ (U.calling g mk a).setFrames s₂.frames with heap := s₂.heap, slotsUsed := s₂.slotsUsed } : State).setVm s₂.vm := by
      have : s₂ = ({ s₂ with vm := (U.calling g mk a).vm } : State).setVm s₂.vm := rfl
      rw [e2] at this
      exact this
    have hf₂ : s₂.frames = .throwing q :: .java g :: U.frames.tail := hend
    have hW' : U.WarmedH s₂.vm := hW₂
    have hs₂ : s₂ = ((({ U with heap := s₂.heap, slotsUsed := s₂.slotsUsed } : State).setVm s₂.vm).setTop g).pushFrame (.throwing q) := by
      refine e3.trans ?_
      rw [hf₂, State.calling_eq h.top, State.setFrames_setFrames, State.pushFrame, State.frames_setTop _ hr', State.setTop_of_frames _ hr', State.setFrames_setFrames, hr]
      rfl
    have hsame : U.sameButNew ({ U with heap := s₂.heap, slotsUsed := s₂.slotsUsed } : State) L mc ms := by
      refine ⟨?_, q2, q3, q4, q5, q6⟩
      obtain ⟨t, ht, -⟩ := State.frames_cons hr
      show ({ U with heap := s₂.heap, slotsUsed := s₂.slotsUsed } : State) = { U.setFrames U.frames with heap := s₂.heap, slotsUsed := s₂.slotsUsed }
      rw [State.setFrames_self ht]
    subst hg
    refine Or.inr ⟨q, ⟨(({ U with heap := s₂.heap, slotsUsed := s₂.slotsUsed } : State).setVm s₂.vm), Ls ++ L, c0 + mc, s0 + ms⟩,
      ⟨X.admits, X.cas, X.clock, X.frames, X.room, X.hears, X.method, X.code, (X.here.setHeapUsed s₂.heap s₂.slotsUsed).setVm hW'.alike, X.tail, State.WarmedH.trans X.warmed hW', X.limits, X.bytes, X.same.trans (hsame.setVm s.vm)⟩,
      ⟨g, mk, s₂, L, E, ce, rfl, rfl, hx, hce, hcv, hcl, rfl, hL, rfl, rfl⟩, ?_⟩
    show Steps p.tables e below _ (((({ U with heap := s₂.heap, slotsUsed := s₂.slotsUsed } : State).setVm s₂.vm).setTop g).pushFrame (.throwing q))
    rw [← hs₂]
    exact hsteps
end Payer
section Calls
variable {p : Program} {l : Launch} {e : Env} {R : Room} {s : State} {m : MethodId} {args : Array Value} {below : List Frame} {meth : Method} {c : Code} {T : State} {locs : List Loc} {cells slots : Nat}
theorem vx_callV (X : Stand p l e R s m args below meth c T locs cells slots) (hexec : p.tables.exec = Jvm.exec) {own C : String} {index : Nat} {y : MethodName} {bytes : ByteArray} {maxL : Nat} {ret : Option FieldType}
    (hown : s.vm.findClass own = some m.cls) (hlink : (Cond.methodLink own index y).before args s = true) (hinst : (Cond.instanceMethod y).before args s = true) (hsel : (Cond.selects C y y).before args s = true)
    (hcode : (Cond.code y bytes maxL ret).before args s = true) (hy : y.cls ≠ "java/lang/invoke/MethodHandle" ∧ y.cls ≠ "java/lang/invoke/VarHandle")
    {W9 : Nat} {Pre : Pt → Array Value → Prop} {Post : Pt → Array Value → Option Value → Pt → Prop} {PostX : Pt → Array Value → Addr → Pt → Prop} (hK : vx_Back l R p e below s args y 3 W9 Pre Post PostX)
    {b : Addr} {cellB : Cell} (hcell : T.heap[b]? = some cellB) (hobj : cellB.vm.isStatics = false) (hcls : s.vm.findClass C = some cellB.cls)
    {g : JFrame} (hg : g.method = m) (hsize : g.locals.size = c.maxLocals) {argsL rest : List Value} (hlen : ∀ sig, parseMethodDescriptor y.desc = some sig → argsL.length = sig.parameters.length)
    (hstack : g.stack = argsL.reverse ++ .ref b :: rest) (hW : 2 * g.monitorRoom + (rest.map fun v => v.category).sum ≤ W9) (hdg : decode c.code g.pc = .ok (.invokevirtual index, 3))
    (hpre : ∀ vm₁, s.WarmedH vm₁ → Pre ⟨T.setVm vm₁, locs, cells, slots⟩ (Value.ref b :: argsL).toArray) :
    (∃ (v : Option Value) (vm₁ : Vm) (B : Pt), s.WarmedH vm₁ ∧ Stand p l e R s m args below meth c B.U B.locs B.cells B.slots ∧ Post ⟨T.setVm vm₁, locs, cells, slots⟩ (Value.ref b :: argsL).toArray v B ∧
      ∀ target, Steps p.tables e below (B.U.setTop { g with pc := g.pc + 3, stack := v.toList ++ rest }) target → Steps p.tables e below (T.setTop g) target) ∨
    (∃ (q : Addr) (vm₁ : Vm) (B : Pt), s.WarmedH vm₁ ∧ Stand p l e R s m args below meth c B.U B.locs B.cells B.slots ∧ PostX ⟨T.setVm vm₁, locs, cells, slots⟩ (Value.ref b :: argsL).toArray q B ∧
      Steps p.tables e below (T.setTop g) ((B.U.setTop { g with stack := rest }).pushFrame (.throwing q))) := by
  obtain ⟨mk, methM, hnamed, hmethM, hstM, habM⟩ := Cond.instanceMethod_spec hinst
  obtain ⟨methM', cM, hmethM', -, -, -, -, -, -, hsigM⟩ := Cond.code_spec hnamed hcode
  cases hmethM.symm.trans hmethM'
  obtain ⟨c2, r2, m2, q1, q2, q3, q4, kP, hkP, hkPi⟩ := Cond.selects_spec hsel
  cases hcls.symm.trans q1
  cases (State.methodFound?_of_named hnamed hy).symm.trans q2
  cases hnamed.symm.trans q3
  have hselP : selectMethod e.platform s.vm cellB.cls mk = .method mk := by rw [Launch.admits_selectMethod X.admits]; exact q4
  obtain ⟨vm₁, X₁, hstep₁⟩ := X.invokevirtual hexec hown hlink hnamed hmethM hstM hkP hkPi hy (a := b) (cell := cellB) hcell
    (fun z h => by rw [h] at hobj; cases hobj) hselP hmethM habM hkP hkPi (g := g) hg (argsL := argsL) (rest := rest) (hlen _ hsigM) hstack hdg
  rcases hK m meth c ⟨T.setVm vm₁, locs, cells, slots⟩ { g with stack := rest } (.invokevirtual index) mk (Value.ref b :: argsL).toArray X₁ hg hsize hdg hW (X₁.named hnamed) (hpre vm₁ X₁.warmed) with ⟨v, B, X', hpost, hsteps⟩ | ⟨q, B, X', hpost, hsteps⟩
  · exact Or.inl ⟨v, vm₁, B, X₁.warmed, X', hpost, fun target h => hstep₁ _ fun acts => by rw [doInvoke_state]; exact hsteps.trans h⟩
  · exact Or.inr ⟨q, vm₁, B, X₁.warmed, X', hpost, hstep₁ _ fun acts => by rw [doInvoke_state]; exact hsteps⟩
theorem vx_callS (X : Stand p l e R s m args below meth c T locs cells slots) (hexec : p.tables.exec = Jvm.exec) {own : String} {index : Nat} {y : MethodName} {bytes : ByteArray} {maxL : Nat} {ret : Option FieldType}
    (hown : s.vm.findClass own = some m.cls) (hlink : (Cond.methodLink own index y).before args s = true) (hstat : (Cond.static y).before args s = true) (hinit : (Cond.initialized y.cls).before args s = true)
    (hcode : (Cond.code y bytes maxL ret).before args s = true) (hy : y.cls ≠ "java/lang/invoke/MethodHandle" ∧ y.cls ≠ "java/lang/invoke/VarHandle")
    {W9 : Nat} {Pre : Pt → Array Value → Prop} {Post : Pt → Array Value → Option Value → Pt → Prop} {PostX : Pt → Array Value → Addr → Pt → Prop} (hK : vx_Back l R p e below s args y 3 W9 Pre Post PostX)
    {g : JFrame} (hg : g.method = m) (hsize : g.locals.size = c.maxLocals) {argsL rest : List Value} (hlen : ∀ sig, parseMethodDescriptor y.desc = some sig → argsL.length = sig.parameters.length)
    (hstack : g.stack = argsL.reverse ++ rest) (hW : 2 * g.monitorRoom + (rest.map fun v => v.category).sum ≤ W9) (hdg : decode c.code g.pc = .ok (.invokestatic index, 3))
    (hpre : ∀ vm₁, s.WarmedH vm₁ → Pre ⟨T.setVm vm₁, locs, cells, slots⟩ argsL.toArray) :
    (∃ (v : Option Value) (vm₁ : Vm) (B : Pt), s.WarmedH vm₁ ∧ Stand p l e R s m args below meth c B.U B.locs B.cells B.slots ∧ Post ⟨T.setVm vm₁, locs, cells, slots⟩ argsL.toArray v B ∧
      ∀ target, Steps p.tables e below (B.U.setTop { g with pc := g.pc + 3, stack := v.toList ++ rest }) target → Steps p.tables e below (T.setTop g) target) ∨
    (∃ (q : Addr) (vm₁ : Vm) (B : Pt), s.WarmedH vm₁ ∧ Stand p l e R s m args below meth c B.U B.locs B.cells B.slots ∧ PostX ⟨T.setVm vm₁, locs, cells, slots⟩ argsL.toArray q B ∧
      Steps p.tables e below (T.setTop g) ((B.U.setTop { g with stack := rest }).pushFrame (.throwing q))) := by
  obtain ⟨mk, hnamed⟩ := Cond.code_named hcode
  obtain ⟨methM, cM, hmethM, -, -, -, -, -, -, hsigM⟩ := Cond.code_spec hnamed hcode
  have hstatic : methM.isStatic = true := Cond.static_spec hnamed hmethM hstat
  obtain ⟨kP, hkP, -⟩ := className_of_methodNamed hnamed
  have hinitP : kP.init = .initialized := Cond.initialized_spec (findClass_of_methodNamed hnamed) hkP hinit
  obtain ⟨vm₁, X₁, hstep₁⟩ := X.invokestatic hexec hown hlink hnamed hmethM hstatic hkP hinitP hy (g := g) hg (argsL := argsL) (rest := rest) (hlen _ hsigM) hstack hdg
  rcases hK m meth c ⟨T.setVm vm₁, locs, cells, slots⟩ { g with stack := rest } (.invokestatic index) mk argsL.toArray X₁ hg hsize hdg hW (X₁.named hnamed) (hpre vm₁ X₁.warmed) with ⟨v, B, X', hpost, hsteps⟩ | ⟨q, B, X', hpost, hsteps⟩
  · exact Or.inl ⟨v, vm₁, B, X₁.warmed, X', hpost, fun target h => hstep₁ _ fun acts => by rw [doInvoke_state]; exact hsteps.trans h⟩
  · exact Or.inr ⟨q, vm₁, B, X₁.warmed, X', hpost, hstep₁ _ fun acts => by rw [doInvoke_state]; exact hsteps⟩
end Calls
theorem vx_cls {s : State} {T : State} {vm₁ : Vm} {E : String} {k : ClassId} (hW : s.WarmedH vm₁) (h : (T.setVm vm₁).vm.findClass E = some k) : s.vm.findClass E = some k := by
  have h1 : vm₁.findClass E = some k := h
  rw [hW.alike.findClass] at h1
  exact h1
/-- the method's frame g, with q thrown over it -/
def vx_W (p : Program) (l : Launch) (e : Env) (R : Room) (s : State) (m : MethodId) (args : Array Value) (below : List Frame) (meth : Method) (c : Code) (H : Heap) (locs : List Loc) (cells slots : Nat) (Q : State → Prop) (g : JFrame) (q : Addr) : Prop :=
  ∀ T : State, T.heap = H → Stand p l e R s m args below meth c T locs cells slots → ∃ t, Steps p.tables e below ((T.setTop g).pushFrame (.throwing q)) t ∧ Q t
def vx_Run (p : Program) (l : Launch) (e : Env) (R : Room) (s : State) (m : MethodId) (args : Array Value) (below : List Frame) (meth : Method) (c : Code) (H : Heap) (locs : List Loc) (cells slots mc ms : Nat) (g : JFrame) (rest : List Value) (Qa : State → Outcome → State → Prop) (XC : String → State → State → Prop) (free : Addr → Prop) : Prop :=
  ∀ T : State, T.heap = H → Stand p l e R s m args below meth c T locs cells slots →
    (∃ (v : Option Value) (st₀ t T' : State) (L : List Loc), st₀.heap = H ∧ Stand p l e R s m args below meth c T' (locs ++ L) (cells + mc) (slots + ms) ∧ (∀ q ∈ L, free q.base) ∧ T'.heap = t.heap ∧ T'.vm = t.vm ∧ Qa st₀ (.returned v) t ∧
      Goes p e below T g T' { g with pc := g.pc + 3, stack := v.toList ++ rest }) ∨
    (∃ (q : Addr) (st₀ t T' : State) (L : List Loc) (E : String) (ce : Cell), st₀.heap = H ∧ Stand p l e R s m args below meth c T' (locs ++ L) (cells + mc) (slots + ms) ∧ (∀ z ∈ L, free z.base) ∧ T'.heap = t.heap ∧ T'.vm = t.vm ∧ XC E st₀ t ∧ t.heap[q]? = some ce ∧ ce.vm = .none ∧ s.vm.findClass E = some ce.cls ∧
      Steps p.tables e below (T.setTop g) ((T'.setTop { g with stack := rest }).pushFrame (.throwing q)))
def vx_X {S : Type} (px : S → Prop) (B : String → S → State → Prop) (A : Nat → Prop) : String → State → State → Prop := fun E st t => ∃ u : S, px u ∧ B E u t ∧ va_F A st t
section Runs
variable {p : Program} {l : Launch} {e : Env} {R : Room} {s : State} {m : MethodId} {args : Array Value} {below : List Frame} {meth : Method} {c : Code} {H : Heap} {locs : List Loc} {cells slots : Nat}
variable {y : MethodName} {bytes cc : ByteArray} {maxL nL mc ms n index : Nat} {ret : Option FieldType} {ws : List Cond} {rm : Room} {Pc : Array Value → State → Prop} {Qc : Array Value → State → Outcome → State → Prop} {XC : String → State → State → Prop} {free : Addr → Prop} {Ts : List Cond} {own C : String} {b : Addr} {As rest : List Value} {g : JFrame}
theorem vx_callBack (cb : CallB R s args own index y bytes maxL ret ws rm mc ms n) (hM : vx_Met l y ws rm Pc Qc XC mc ms free) (hbl : FrameBlind Pc) : vx_Back l R p e below s args y 3 8 (PreOf R mc ms Pc) (PostOf Qc mc ms free) (vx_Post XC mc ms free) := by
  obtain ⟨hrc, hrs, hfr, hlo, hws, hcw, -, hini, -⟩ := cb
  exact vx_back (bytes := bytes) (maxL := maxL) (ret := ret) hM hbl hrc hrs hfr hlo hws hcw (fun a' U hW => word_at hW (Or.inl (by first | rfl | simp [Cond.onTables, Cond.keeps, Cond.steady])) hini)
theorem vx_runV (S : CallFix p m c cc nL s args Ts own) (hM : vx_Met l y ws rm Pc Qc XC mc ms free) (cw : CallW R s args own C index y bytes maxL ret ws rm mc ms n) (hp : PreV s H C b Pc As)
    (hg : g.method = m) (hn : As.length = n) (hsize : g.locals.size = nL) (hstack : g.stack = As.reverse ++ .ref b :: rest) (hW : 2 * g.monitorRoom + (rest.map fun v => v.category).sum ≤ 8) (hdg : decode cc g.pc = .ok (.invokevirtual index, 3)) (hf : cells + mc ≤ R.cells ∧ slots + ms ≤ R.slots) :
    vx_Run p l e R s m args below meth c H locs cells slots mc ms g rest (Qc (Value.ref b :: As).toArray) XC free := by
  have hK : vx_Back l R p e below s args y 3 8 (PreOf R mc ms Pc) (PostOf Qc mc ms free) (vx_Post XC mc ms free) := vx_callBack cw.1 hM hp.1
  obtain ⟨⟨-, -, -, -, -, -, hcode, -, hy, hlen, hl⟩, hin, hse⟩ := cw
  obtain ⟨hx, hb, hml, ho, -⟩ := S
  obtain ⟨-, ⟨cellB, hcB, hoB, hclB⟩, hPc⟩ := hp
  intro T hT X
  rcases vx_callV X hx (C := C) (bytes := bytes) (maxL := maxL) (ret := ret) ho hl hin hse hcode hy hK (by rw [hT]; exact hcB) hoB hclB hg (hsize.trans hml.symm) (argsL := As) (rest := rest) (fun sig h => hn.trans (hlen sig h)) hstack hW (by rw [hb]; exact hdg)
    (fun vm₁ hW₁ => ⟨hf.1, hf.2, hPc (T.setVm vm₁) hT hW₁⟩) with ⟨v, vm₁, ⟨U', l2, c2, s2⟩, hW₁, X', ⟨g', mk, t, L, e1, e2, hq, h1, hL, h2, h3⟩, st⟩ | ⟨q, vm₁, ⟨U', l2, c2, s2⟩, hW₁, X', ⟨g', mk, t, L, E, ce, e1, e2, hq, hce, hcv, hcl, h1, hL, h2, h3⟩, st⟩
  · dsimp only [Pt.U, Pt.locs, Pt.cells, Pt.slots] at X' e1 e2 h1 h2 h3 st
    subst h1; subst h2; subst h3
    exact Or.inl ⟨v, (T.setVm vm₁).calling g' mk (Value.ref b :: As).toArray, t, U', L, hT, X', hL, e1, e2, hq, st⟩
  · dsimp only [Pt.U, Pt.locs, Pt.cells, Pt.slots] at X' e1 e2 h1 h2 h3 st hcl
    subst h1; subst h2; subst h3
    exact Or.inr ⟨q, (T.setVm vm₁).calling g' mk (Value.ref b :: As).toArray, t, U', L, E, ce, hT, X', hL, e1, e2, hq, hce, hcv, vx_cls hW₁ hcl, st⟩
theorem vx_runS (S : CallFix p m c cc nL s args Ts own) (hM : vx_Met l y ws rm Pc Qc XC mc ms free) (cw : CallB R s args own index y bytes maxL ret ws rm mc ms n ∧ (Cond.static y).before args s = true) (hp : PreS s H Pc As)
    (hg : g.method = m) (hn : As.length = n) (hsize : g.locals.size = nL) (hstack : g.stack = As.reverse ++ rest) (hW : 2 * g.monitorRoom + (rest.map fun v => v.category).sum ≤ 8) (hdg : decode cc g.pc = .ok (.invokestatic index, 3)) (hf : cells + mc ≤ R.cells ∧ slots + ms ≤ R.slots) :
    vx_Run p l e R s m args below meth c H locs cells slots mc ms g rest (Qc As.toArray) XC free := by
  have hK : vx_Back l R p e below s args y 3 8 (PreOf R mc ms Pc) (PostOf Qc mc ms free) (vx_Post XC mc ms free) := vx_callBack cw.1 hM hp.1
  obtain ⟨⟨-, -, -, -, -, -, hcode, hini, hy, hlen, hl⟩, hstt⟩ := cw
  obtain ⟨hx, hb, hml, ho, -⟩ := S
  intro T hT X
  rcases vx_callS X hx (bytes := bytes) (maxL := maxL) (ret := ret) ho hl hstt hini hcode hy hK hg (hsize.trans hml.symm) (argsL := As) (rest := rest) (fun sig h => hn.trans (hlen sig h)) hstack hW (by rw [hb]; exact hdg)
    (fun vm₁ hW₁ => ⟨hf.1, hf.2, hp.2 (T.setVm vm₁) hT hW₁⟩) with ⟨v, vm₁, ⟨U', l2, c2, s2⟩, hW₁, X', ⟨g', mk, t, L, e1, e2, hq, h1, hL, h2, h3⟩, st⟩ | ⟨q, vm₁, ⟨U', l2, c2, s2⟩, hW₁, X', ⟨g', mk, t, L, E, ce, e1, e2, hq, hce, hcv, hcl, h1, hL, h2, h3⟩, st⟩
  · dsimp only [Pt.U, Pt.locs, Pt.cells, Pt.slots] at X' e1 e2 h1 h2 h3 st
    subst h1; subst h2; subst h3
    exact Or.inl ⟨v, (T.setVm vm₁).calling g' mk As.toArray, t, U', L, hT, X', hL, e1, e2, hq, st⟩
  · dsimp only [Pt.U, Pt.locs, Pt.cells, Pt.slots] at X' e1 e2 h1 h2 h3 st hcl
    subst h1; subst h2; subst h3
    exact Or.inr ⟨q, (T.setVm vm₁).calling g' mk As.toArray, t, U', L, E, ce, hT, X', hL, e1, e2, hq, hce, hcv, vx_cls hW₁ hcl, st⟩
end Runs
section Rows
variable {p : Program} {l : Launch} {e : Env} {R : Room} {s : State} {m : MethodId} {args : Array Value} {below : List Frame} {meth : Method} {c : Code} {H : Heap} {locs : List Loc} {cells slots : Nat} {Q : State → Prop}
variable {mc ms : Nat} {free : Addr → Prop} {A0 A1 : Nat → Prop} {H0 : Heap} {a : Array Value} {pc : Nat} {ls : Array Slot} {st0 rest : List Value}
theorem vx_keep {st₀ t T' : State} {L : List Loc} (h0 : st₀.heap = H) (e1 : T'.heap = t.heap) (hS : va_S A0 H0 H locs) (hA : ∀ q, q < H.size → A1 q → A0 q) (hf : ∀ q, free q → A0 q) (hL : ∀ q ∈ L, free q.base) (hF : va_F A1 st₀ t) :
    H.size ≤ T'.heap.size ∧ (∀ q : Nat, q < H.size → ¬ A1 q → T'.heap[q]? = H[q]?) ∧ va_S A0 H0 T'.heap (locs ++ L) := by
  obtain ⟨hz, hk⟩ := hF
  rw [h0] at hz hk
  exact ⟨by rw [e1]; exact hz, fun q h1 h2 => by rw [e1]; exact hk q h1 h2,
    ⟨Nat.le_trans hS.1 (by rw [e1]; exact hz), fun q h1 h2 => by rw [e1, hk q (Nat.lt_of_lt_of_le h1 hS.1) (fun z => h2 (hA q (Nat.lt_of_lt_of_le h1 hS.1) z))]; exact hS.2.1 q h1 h2, fun q hq => by
      rcases List.mem_append.mp hq with h | h
      · exact hS.2.2 q h
      · exact hf _ (hL q h)⟩⟩
theorem vx_calli {S SX : Type} {post : Int32 → S → Prop} {px : SX → Prop} {B : S → State → Prop} {BX : String → SX → State → Prop} {AX : Nat → Prop} (hr : vx_Run p l e R s m args below meth c H locs cells slots mc ms (F0 m pc ls st0) rest (va_Qi post B A1 a) (vx_X px BX AX) free) (hS : va_S A0 H0 H locs) (hA : ∀ q, q < H.size → A1 q → A0 q) (hf : ∀ q, free q → A0 q) (hAX : ∀ q, q < H.size → AX q → A0 q)
    (kx : ∀ (E : String) (ce : Cell) (q9 : Addr) (u : SX) (t : State) (H1 : Heap) (locs1 : List Loc), t.heap = H1 → s.vm.Alike t.vm → px u → BX E u t → H.size ≤ H1.size → (∀ q : Nat, q < H.size → ¬ AX q → H1[q]? = H[q]?) → va_S A0 H0 H1 locs1 → H1[q9]? = some ce → ce.vm = .none → s.vm.findClass E = some ce.cls → vx_W p l e R s m args below meth c H1 locs1 (cells + mc) (slots + ms) Q (F0 m pc ls rest) q9)
    (kk : ∀ (r : Int32) (u : S) (t : State) (H1 : Heap) (locs1 : List Loc), t.heap = H1 → s.vm.Alike t.vm → post r u → B u t → H.size ≤ H1.size → (∀ q : Nat, q < H.size → ¬ A1 q → H1[q]? = H[q]?) → va_S A0 H0 H1 locs1 → W p l e R s m args below meth c H1 locs1 (cells + mc) (slots + ms) Q (F0 m (pc + 3) ls (.int r :: rest))) : W p l e R s m args below meth c H locs cells slots Q (F0 m pc ls st0) := by
  intro T hT X
  rcases hr T hT X with ⟨v, st₀, t, T', L, h0, X', hL, e1, e2, ⟨⟨r, u, hv, hp, hb⟩, hF⟩, st⟩ | ⟨q, st₀, t, T', L, E, ce, h0, X', hL, e1, e2, ⟨u, hp, hb, hF⟩, hce, hcv, hcl, st⟩
  · cases hv
    obtain ⟨k1, k2, k3⟩ := vx_keep h0 e1 hS hA hf hL hF
    obtain ⟨t2, a1, b1⟩ := kk r u t T'.heap (locs ++ L) e1.symm (by rw [← e2]; exact X'.warmed.alike) hp hb k1 k2 k3 T' rfl X'
    exact ⟨t2, st t2 a1, b1⟩
  · obtain ⟨k1, k2, k3⟩ := vx_keep h0 e1 hS hAX hf hL hF
    obtain ⟨t2, a1, b1⟩ := kx E ce q u t T'.heap (locs ++ L) e1.symm (by rw [← e2]; exact X'.warmed.alike) hp hb k1 k2 k3 (by rw [e1]; exact hce) hcv hcl T' rfl X'
    exact ⟨t2, st.trans a1, b1⟩
theorem vx_calll {S SX : Type} {post : Int64 → S → Prop} {px : SX → Prop} {B : S → State → Prop} {BX : String → SX → State → Prop} {AX : Nat → Prop} (hr : vx_Run p l e R s m args below meth c H locs cells slots mc ms (F0 m pc ls st0) rest (va_Ql post B A1 a) (vx_X px BX AX) free) (hS : va_S A0 H0 H locs) (hA : ∀ q, q < H.size → A1 q → A0 q) (hf : ∀ q, free q → A0 q) (hAX : ∀ q, q < H.size → AX q → A0 q)
    (kx : ∀ (E : String) (ce : Cell) (q9 : Addr) (u : SX) (t : State) (H1 : Heap) (locs1 : List Loc), t.heap = H1 → s.vm.Alike t.vm → px u → BX E u t → H.size ≤ H1.size → (∀ q : Nat, q < H.size → ¬ AX q → H1[q]? = H[q]?) → va_S A0 H0 H1 locs1 → H1[q9]? = some ce → ce.vm = .none → s.vm.findClass E = some ce.cls → vx_W p l e R s m args below meth c H1 locs1 (cells + mc) (slots + ms) Q (F0 m pc ls rest) q9)
    (kk : ∀ (r : Int64) (u : S) (t : State) (H1 : Heap) (locs1 : List Loc), t.heap = H1 → s.vm.Alike t.vm → post r u → B u t → H.size ≤ H1.size → (∀ q : Nat, q < H.size → ¬ A1 q → H1[q]? = H[q]?) → va_S A0 H0 H1 locs1 → W p l e R s m args below meth c H1 locs1 (cells + mc) (slots + ms) Q (F0 m (pc + 3) ls (.long r :: rest))) : W p l e R s m args below meth c H locs cells slots Q (F0 m pc ls st0) := by
  intro T hT X
  rcases hr T hT X with ⟨v, st₀, t, T', L, h0, X', hL, e1, e2, ⟨⟨r, u, hv, hp, hb⟩, hF⟩, st⟩ | ⟨q, st₀, t, T', L, E, ce, h0, X', hL, e1, e2, ⟨u, hp, hb, hF⟩, hce, hcv, hcl, st⟩
  · cases hv
    obtain ⟨k1, k2, k3⟩ := vx_keep h0 e1 hS hA hf hL hF
    obtain ⟨t2, a1, b1⟩ := kk r u t T'.heap (locs ++ L) e1.symm (by rw [← e2]; exact X'.warmed.alike) hp hb k1 k2 k3 T' rfl X'
    exact ⟨t2, st t2 a1, b1⟩
  · obtain ⟨k1, k2, k3⟩ := vx_keep h0 e1 hS hAX hf hL hF
    obtain ⟨t2, a1, b1⟩ := kx E ce q u t T'.heap (locs ++ L) e1.symm (by rw [← e2]; exact X'.warmed.alike) hp hb k1 k2 k3 (by rw [e1]; exact hce) hcv hcl T' rfl X'
    exact ⟨t2, st.trans a1, b1⟩
theorem vx_callf {S SX : Type} {post : UInt32 → S → Prop} {px : SX → Prop} {B : S → State → Prop} {BX : String → SX → State → Prop} {AX : Nat → Prop} (hr : vx_Run p l e R s m args below meth c H locs cells slots mc ms (F0 m pc ls st0) rest (va_Qf post B A1 a) (vx_X px BX AX) free) (hS : va_S A0 H0 H locs) (hA : ∀ q, q < H.size → A1 q → A0 q) (hf : ∀ q, free q → A0 q) (hAX : ∀ q, q < H.size → AX q → A0 q)
    (kx : ∀ (E : String) (ce : Cell) (q9 : Addr) (u : SX) (t : State) (H1 : Heap) (locs1 : List Loc), t.heap = H1 → s.vm.Alike t.vm → px u → BX E u t → H.size ≤ H1.size → (∀ q : Nat, q < H.size → ¬ AX q → H1[q]? = H[q]?) → va_S A0 H0 H1 locs1 → H1[q9]? = some ce → ce.vm = .none → s.vm.findClass E = some ce.cls → vx_W p l e R s m args below meth c H1 locs1 (cells + mc) (slots + ms) Q (F0 m pc ls rest) q9)
    (kk : ∀ (r : UInt32) (u : S) (t : State) (H1 : Heap) (locs1 : List Loc), t.heap = H1 → s.vm.Alike t.vm → post r u → B u t → H.size ≤ H1.size → (∀ q : Nat, q < H.size → ¬ A1 q → H1[q]? = H[q]?) → va_S A0 H0 H1 locs1 → W p l e R s m args below meth c H1 locs1 (cells + mc) (slots + ms) Q (F0 m (pc + 3) ls (.float r :: rest))) : W p l e R s m args below meth c H locs cells slots Q (F0 m pc ls st0) := by
  intro T hT X
  rcases hr T hT X with ⟨v, st₀, t, T', L, h0, X', hL, e1, e2, ⟨⟨r, u, hv, hp, hb⟩, hF⟩, st⟩ | ⟨q, st₀, t, T', L, E, ce, h0, X', hL, e1, e2, ⟨u, hp, hb, hF⟩, hce, hcv, hcl, st⟩
  · cases hv
    obtain ⟨k1, k2, k3⟩ := vx_keep h0 e1 hS hA hf hL hF
    obtain ⟨t2, a1, b1⟩ := kk r u t T'.heap (locs ++ L) e1.symm (by rw [← e2]; exact X'.warmed.alike) hp hb k1 k2 k3 T' rfl X'
    exact ⟨t2, st t2 a1, b1⟩
  · obtain ⟨k1, k2, k3⟩ := vx_keep h0 e1 hS hAX hf hL hF
    obtain ⟨t2, a1, b1⟩ := kx E ce q u t T'.heap (locs ++ L) e1.symm (by rw [← e2]; exact X'.warmed.alike) hp hb k1 k2 k3 (by rw [e1]; exact hce) hcv hcl T' rfl X'
    exact ⟨t2, st.trans a1, b1⟩
theorem vx_calld {S SX : Type} {post : UInt64 → S → Prop} {px : SX → Prop} {B : S → State → Prop} {BX : String → SX → State → Prop} {AX : Nat → Prop} (hr : vx_Run p l e R s m args below meth c H locs cells slots mc ms (F0 m pc ls st0) rest (va_Qd post B A1 a) (vx_X px BX AX) free) (hS : va_S A0 H0 H locs) (hA : ∀ q, q < H.size → A1 q → A0 q) (hf : ∀ q, free q → A0 q) (hAX : ∀ q, q < H.size → AX q → A0 q)
    (kx : ∀ (E : String) (ce : Cell) (q9 : Addr) (u : SX) (t : State) (H1 : Heap) (locs1 : List Loc), t.heap = H1 → s.vm.Alike t.vm → px u → BX E u t → H.size ≤ H1.size → (∀ q : Nat, q < H.size → ¬ AX q → H1[q]? = H[q]?) → va_S A0 H0 H1 locs1 → H1[q9]? = some ce → ce.vm = .none → s.vm.findClass E = some ce.cls → vx_W p l e R s m args below meth c H1 locs1 (cells + mc) (slots + ms) Q (F0 m pc ls rest) q9)
    (kk : ∀ (r : UInt64) (u : S) (t : State) (H1 : Heap) (locs1 : List Loc), t.heap = H1 → s.vm.Alike t.vm → post r u → B u t → H.size ≤ H1.size → (∀ q : Nat, q < H.size → ¬ A1 q → H1[q]? = H[q]?) → va_S A0 H0 H1 locs1 → W p l e R s m args below meth c H1 locs1 (cells + mc) (slots + ms) Q (F0 m (pc + 3) ls (.double r :: rest))) : W p l e R s m args below meth c H locs cells slots Q (F0 m pc ls st0) := by
  intro T hT X
  rcases hr T hT X with ⟨v, st₀, t, T', L, h0, X', hL, e1, e2, ⟨⟨r, u, hv, hp, hb⟩, hF⟩, st⟩ | ⟨q, st₀, t, T', L, E, ce, h0, X', hL, e1, e2, ⟨u, hp, hb, hF⟩, hce, hcv, hcl, st⟩
  · cases hv
    obtain ⟨k1, k2, k3⟩ := vx_keep h0 e1 hS hA hf hL hF
    obtain ⟨t2, a1, b1⟩ := kk r u t T'.heap (locs ++ L) e1.symm (by rw [← e2]; exact X'.warmed.alike) hp hb k1 k2 k3 T' rfl X'
    exact ⟨t2, st t2 a1, b1⟩
  · obtain ⟨k1, k2, k3⟩ := vx_keep h0 e1 hS hAX hf hL hF
    obtain ⟨t2, a1, b1⟩ := kx E ce q u t T'.heap (locs ++ L) e1.symm (by rw [← e2]; exact X'.warmed.alike) hp hb k1 k2 k3 (by rw [e1]; exact hce) hcv hcl T' rfl X'
    exact ⟨t2, st.trans a1, b1⟩
theorem vx_callv {S SX : Type} {post : S → Prop} {px : SX → Prop} {B : S → State → Prop} {BX : String → SX → State → Prop} {AX : Nat → Prop} (hr : vx_Run p l e R s m args below meth c H locs cells slots mc ms (F0 m pc ls st0) rest (va_Qv post B A1 a) (vx_X px BX AX) free) (hS : va_S A0 H0 H locs) (hA : ∀ q, q < H.size → A1 q → A0 q) (hf : ∀ q, free q → A0 q) (hAX : ∀ q, q < H.size → AX q → A0 q)
    (kx : ∀ (E : String) (ce : Cell) (q9 : Addr) (u : SX) (t : State) (H1 : Heap) (locs1 : List Loc), t.heap = H1 → s.vm.Alike t.vm → px u → BX E u t → H.size ≤ H1.size → (∀ q : Nat, q < H.size → ¬ AX q → H1[q]? = H[q]?) → va_S A0 H0 H1 locs1 → H1[q9]? = some ce → ce.vm = .none → s.vm.findClass E = some ce.cls → vx_W p l e R s m args below meth c H1 locs1 (cells + mc) (slots + ms) Q (F0 m pc ls rest) q9)
    (kk : ∀ (u : S) (t : State) (H1 : Heap) (locs1 : List Loc), t.heap = H1 → s.vm.Alike t.vm → post u → B u t → H.size ≤ H1.size → (∀ q : Nat, q < H.size → ¬ A1 q → H1[q]? = H[q]?) → va_S A0 H0 H1 locs1 → W p l e R s m args below meth c H1 locs1 (cells + mc) (slots + ms) Q (F0 m (pc + 3) ls (rest))) : W p l e R s m args below meth c H locs cells slots Q (F0 m pc ls st0) := by
  intro T hT X
  rcases hr T hT X with ⟨v, st₀, t, T', L, h0, X', hL, e1, e2, ⟨⟨u, hv, hp, hb⟩, hF⟩, st⟩ | ⟨q, st₀, t, T', L, E, ce, h0, X', hL, e1, e2, ⟨u, hp, hb, hF⟩, hce, hcv, hcl, st⟩
  · cases hv
    obtain ⟨k1, k2, k3⟩ := vx_keep h0 e1 hS hA hf hL hF
    obtain ⟨t2, a1, b1⟩ := kk u t T'.heap (locs ++ L) e1.symm (by rw [← e2]; exact X'.warmed.alike) hp hb k1 k2 k3 T' rfl X'
    exact ⟨t2, st t2 a1, b1⟩
  · obtain ⟨k1, k2, k3⟩ := vx_keep h0 e1 hS hAX hf hL hF
    obtain ⟨t2, a1, b1⟩ := kx E ce q u t T'.heap (locs ++ L) e1.symm (by rw [← e2]; exact X'.warmed.alike) hp hb k1 k2 k3 (by rw [e1]; exact hce) hcv hcl T' rfl X'
    exact ⟨t2, st.trans a1, b1⟩
/-- caught by the row x of this method's table; the rows ahead don't take it -/
theorem vx_catch {own name : String} {E : String} {ce : Cell} {q : Addr} (hown : s.vm.findClass own = some m.cls) (pre : List ExceptionTableEntry) (x : ExceptionTableEntry) (suf : List ExceptionTableEntry) (hsplit : c.exceptionTable.toList = pre ++ x :: suf)
    (hpass : ∀ z ∈ pre, covers z pc = false ∨ (z.catchType ≠ 0 ∧ ∃ nm : String, (Cond.classLink own z.catchType nm).before args s = true ∧ va_Nc E nm s)) (hx : covers x pc = true) (h0 : x.catchType ≠ 0)
    (hlink : (Cond.classLink own x.catchType name).before args s = true) (hcast : (Cond.castable E name).before args s = true) (hcell : H[q]? = some ce) (hv : ce.vm = .none) (hcl : s.vm.findClass E = some ce.cls)
    (kk : W p l e R s m args below meth c H locs cells slots Q (F0 m x.handlerPc ls [.ref q])) : vx_W p l e R s m args below meth c H locs cells slots Q (F0 m pc ls rest) q := by
  intro T hT X
  have hpl : e.platform.magicAccessors = ({} : Platform).magicAccessors := by rw [X.admits.platform]
  obtain ⟨c3, c4, hc3, hc4, hasg⟩ := Cond.castable_spec hcast
  cases Option.some.inj (hc3.symm.trans hcl)
  obtain ⟨c5, hc5, hcl5⟩ := Cond.classLink_spec hown hlink e.platform hpl
  cases Option.some.inj (hc4.symm.trans hc5)
  obtain ⟨vm', X', st⟩ := X.thenCaughtThrough q (g := F0 m pc ls rest) rfl (Steps.refl _) (by rw [hT]; exact hcell) (by rw [hv]; rfl) (by obtain ⟨k9, h9, -⟩ := Vm.findClass_spec hcl; exact ⟨k9, h9⟩) pre x suf hsplit
    (fun z hz => by
      rcases hpass z hz with h | ⟨hz0, nm, hl1, hn1⟩
      · exact Or.inl h
      · obtain ⟨c6, hc6, hcl6⟩ := Cond.classLink_spec hown hl1 e.platform hpl
        obtain ⟨a8, b8, h1, h2, h3⟩ := hn1
        cases Option.some.inj (h1.symm.trans hcl)
        cases Option.some.inj (h2.symm.trans hc6)
        exact Or.inr ⟨hz0, _, hcl6, h3⟩) hx (Or.inr ⟨h0, c4, hcl5, hasg⟩)
  obtain ⟨t, a1, b1⟩ := kk (T.setVm vm') hT X'
  exact ⟨t, st.trans a1, b1⟩
end Rows
section Ends
variable {p : Program} {l : Launch} {e : Env} {R : Room} {s : State} {m : MethodId} {args : Array Value} {below : List Frame} {meth : Method} {c : Code} {H : Heap} {locs : List Loc} {cells slots : Nat} {Q : State → Prop}
variable {mc ms : Nat} {free : Addr → Prop} {A0 A1 : Nat → Prop} {H0 : Heap} {a : Array Value} {ls : Array Slot} {st0 rest : List Value}
variable {Qc : Array Value → State → Outcome → State → Prop} {XC : String → State → State → Prop}
/-- what a body that may throw owes at its end -/
def vx_MQ (below : List Frame) (Qc : Array Value → State → Outcome → State → Prop) (XC : String → State → State → Prop) (a : Array Value) (s : State) (mc ms : Nat) (free : Addr → Prop) : State → Prop := fun t =>
  ∃ o, t.status = .running ∧ Ended t below o ∧ vx_Q Qc XC mc ms free a s o t
theorem vx_ret {g : JFrame} {mc ms : Nat} (k : W p l e R s m args below meth c H locs cells slots (MQ below Qc args s mc ms free) g) : W p l e R s m args below meth c H locs cells slots (vx_MQ below Qc XC args s mc ms free) g := by
  intro T hT X
  obtain ⟨t, a1, o, b1, b2, b3, b4⟩ := k T hT X
  exact ⟨t, a1, o, b1, b2, Or.inl ⟨b3, b4⟩⟩
/-- not caught here: it goes on to the caller -/
theorem vx_widen {g : JFrame} {q : Addr} {k n : Nat} (h1 : cells ≤ k) (h2 : slots ≤ n) (kk : vx_W p l e R s m args below meth c H locs k n Q g q) : vx_W p l e R s m args below meth c H locs cells slots Q g q := fun T hT X => kk T hT (stand_widen X h1 h2)
theorem vx_out {pc : Nat} {E : String} {ce : Cell} {q : Addr} {mc ms : Nat} (hout : ∀ x ∈ c.exceptionTable.toList, covers x pc = false) (hlocks : meth.locks = false) (hcell : H[q]? = some ce) (hv : ce.vm = .none) (hcl : s.vm.findClass E = some ce.cls)
    (hx : ∀ t : State, t.heap = H → s.vm.Alike t.vm → XC E s t) (hf : ∀ z ∈ locs, free z.base) (hc : cells ≤ mc) (hs : slots ≤ ms) :
    vx_W p l e R s m args below meth c H locs cells slots (vx_MQ below Qc XC args s mc ms free) (F0 m pc ls rest) q := by
  intro T hT X
  obtain ⟨st1, hrun, hend, hW, hsm⟩ := X.leaveThrown q (g := F0 m pc ls rest) rfl rfl rfl hout hlocks
  have hcell9 : (T.setFrames (.throwing q :: below)).heap[q]? = some ce := by
    show T.heap[q]? = some ce
    rw [hT]; exact hcell
  exact ⟨_, st1, .threw q, hrun, hend, Or.inr ⟨q, rfl, E, ce, locs, hx _ hT hW.alike, hcell9, hv, hcl, hW, hsm.mono hc hs, hf⟩⟩
theorem vx_frame {U : State} {k n : Nat} (h : s.sameButNew ({ U with vm := s.vm } : State) locs k n) : s.heap.size ≤ U.heap.size ∧ ∀ q : Nat, q < s.heap.size → (∀ z ∈ locs, z.base ≠ q) → U.heap[q]? = s.heap[q]? := by
  obtain ⟨-, h2, -, -, -, h6⟩ := h
  refine ⟨h2, fun q hq hz => ?_⟩
  obtain ⟨c9, e1, e2, e3, e4⟩ := h6 q _ (Array.getElem?_eq_getElem hq)
  have hs : c9.slots = (s.heap[q]).slots := Array.ext_getElem? fun i => e4 i fun hm => hz _ hm rfl
  have h9 : c9 = s.heap[q] := by
    rw [hs] at e2
    exact e2
  have e5 : U.heap[q]? = some c9 := e1
  rw [e5, h9, Array.getElem?_eq_getElem hq]
/-- the words of a throw but the four that speak of the heap -/
def vx_no (w : Cond) : Bool := decide (w ≠ .isRef (.static Bundle.tN "UNASSIGNED_STACK" Bundle.steD)) && decide (w ≠ .isRef (.static Bundle.tN "SUPPRESSED_SENTINEL" Bundle.listD)) && decide (w ≠ .laysStatic Bundle.tN "UNASSIGNED_STACK" Bundle.steD) && decide (w ≠ .laysStatic Bundle.tN "SUPPRESSED_SENTINEL" Bundle.listD)
def vx_at0 (own : String) (ic : Nat) (X : String) (names : List String) : List Cond := (Bundle.ownAtoms0 own ic X names).filter vx_no
def vx_atS (own : String) (ic : Nat) (X : String) (names : List String) : List Cond := (Bundle.ownAtoms own ic X names).filter vx_no
/-- a word that the tables alone decide, or a good one -/
def vx_ot (w : Cond) : Bool := w.onTables || goodWord w
theorem vx_ot_at {args a' : Array Value} {s U : State} {w : Cond} (hW : s.WarmedH U.vm) (hvm : s.vm = U.vm) (hg : vx_ot w = true) (h : w.before args s = true) : w.before a' U = true := by
  simp only [vx_ot, Bool.or_eq_true] at hg
  rcases hg with hg | hg
  · exact va_tabs hg hvm h
  · exact word_at hW (good_of_word hg) h
/-- a list's words: the good ones out of the method's own list, the others by premises of their own -/
theorem vx_hat {args : Array Value} {s : State} {L B : List Cond} (h1 : ∀ w ∈ L.filter goodWord, w.before args s = true) (h2 : ∀ w ∈ L.filter (fun w => !goodWord w), w ∈ B) (h3 : ∀ w ∈ B, w.before args s = true) : ∀ w ∈ L, w.before args s = true := by
  intro w hw
  by_cases g : goodWord w = true
  · exact h1 w (List.mem_filter.mpr ⟨hw, g⟩)
  · refine h3 w (h2 w (List.mem_filter.mpr ⟨hw, ?_⟩))
    show (!goodWord w) = true
    cases hgw : goodWord w
    · rfl
    · exact absurd hgw g
theorem vx_c {args : Array Value} {s : State} {w : Cond} {B : List Cond} (h : w.before args s = true) (t : ∀ w ∈ B, w.before args s = true) : ∀ w' ∈ w :: B, w'.before args s = true := fun w' h' => (List.mem_cons.mp h').elim (fun e => by rw [e]; exact h) (t w')
theorem vx_n {args : Array Value} {s : State} : ∀ w ∈ ([] : List Cond), w.before args s = true := fun _ h => nomatch h
theorem vx_own {args : Array Value} {s : State} {L : List Cond} (h1 : ∀ w ∈ L.filter vx_no, w.before args s = true)
    (hU : (Cond.isRef (.static Bundle.tN "UNASSIGNED_STACK" Bundle.steD)).before args s = true) (hN : (Cond.isRef (.static Bundle.tN "SUPPRESSED_SENTINEL" Bundle.listD)).before args s = true)
    (lU : (Cond.laysStatic Bundle.tN "UNASSIGNED_STACK" Bundle.steD).before args s = true) (lN : (Cond.laysStatic Bundle.tN "SUPPRESSED_SENTINEL" Bundle.listD).before args s = true) : ∀ w ∈ L, w.before args s = true := by
  intro w hw
  by_cases e1 : w = .isRef (.static Bundle.tN "UNASSIGNED_STACK" Bundle.steD)
  · rw [e1]; exact hU
  · by_cases e2 : w = .isRef (.static Bundle.tN "SUPPRESSED_SENTINEL" Bundle.listD)
    · rw [e2]; exact hN
    · by_cases e3 : w = .laysStatic Bundle.tN "UNASSIGNED_STACK" Bundle.steD
      · rw [e3]; exact lU
      · by_cases e4 : w = .laysStatic Bundle.tN "SUPPRESSED_SENTINEL" Bundle.listD
        · rw [e4]; exact lN
        · exact h1 w (List.mem_filter.mpr ⟨hw, by unfold vx_no; rw [decide_eq_true e1, decide_eq_true e2, decide_eq_true e3, decide_eq_true e4]; rfl⟩)
/-- where a static field lies, its class's statics cell in H -/
def vx_L (C n d : String) (A : Nat → Prop) (U : State) (H : Heap) : Prop := ∃ (c : ClassId) (k : Class) (i : Nat) (f : Field) (a : Nat) (cell : Cell), U.vm.findClass C = some c ∧ U.fieldFound? C n d = some (c, k, i, f) ∧ f.isStatic = true ∧ k.statics = some a ∧ H[a]? = some cell ∧ cell.vm.isStatics = true ∧ cell.cls = c ∧ f.slot < cell.slots.size ∧ k.staticTypes[f.slot]? = some f.type ∧ ¬ A a
theorem vx_L.moved {C n d : String} {A : Nat → Prop} {u U : State} {H : Heap} (hvm : u.vm.Alike U.vm) (h : vx_L C n d A u H) : vx_L C n d A U H := by
  obtain ⟨c, k, i, f, a, cell, h1, h2, h3, h4, h5, h6, h7, h8, h9, h10⟩ := h
  obtain ⟨k', hi', he⟩ := State.fieldFound?_setVm hvm h2
  exact ⟨c, k', i, f, a, cell, by rw [hvm.findClass]; exact h1, hi', h3, by rw [he]; exact h4, h5, h6, h7, h8, by rw [he]; exact h9, h10⟩
theorem vx_L.kept {C n d : String} {A : Nat → Prop} {U : State} {H H1 : Heap} (h : vx_L C n d A U H) (hq : ∀ a : Nat, a < H.size → ¬ A a → H1[a]? = H[a]?) : vx_L C n d A U H1 := by
  obtain ⟨c, k, i, f, a, cell, h1, h2, h3, h4, h5, h6, h7, h8, h9, h10⟩ := h
  exact ⟨c, k, i, f, a, cell, h1, h2, h3, h4, by rw [hq a (Array.getElem?_eq_some_iff.mp h5).1 h10]; exact h5, h6, h7, h8, h9, h10⟩
theorem vx_L.narrow {C n d : String} {A B : Nat → Prop} {U : State} {H : Heap} (h : vx_L C n d A U H) (hAB : ∀ q, B q → A q) : vx_L C n d B U H := by
  obtain ⟨c, k, i, f, a, cell, h1, h2, h3, h4, h5, h6, h7, h8, h9, h10⟩ := h
  exact ⟨c, k, i, f, a, cell, h1, h2, h3, h4, h5, h6, h7, h8, h9, fun z => h10 (hAB _ z)⟩
theorem vx_L.word {C n d : String} {A : Nat → Prop} {s : State} {args : Array Value} (h : vx_L C n d A s s.heap) : (Cond.laysStatic C n d).before args s = true := by
  obtain ⟨c, k, i, f, a, cell, h1, h2, h3, h4, h5, h6, h7, h8, h9, -⟩ := h
  show (Cond.laysStatic C n d).holds args s none s [] = true
  exact Cond.laysStatic_of h1 h2 h3 h4 h5 h6 h7 h8 h9
/-- .. and what it holds: null or some reference -/
def vx_Zq (C n d : String) (A : Nat → Prop) (U : State) (H : Heap) : Prop := va_Zq C n d A U H ∧ vx_L C n d A U H
theorem vx_Zq.moved {C n d : String} {A : Nat → Prop} {u U : State} {H : Heap} (hvm : u.vm.Alike U.vm) (h : vx_Zq C n d A u H) : vx_Zq C n d A U H := ⟨va_Zq.moved hvm h.1, vx_L.moved hvm h.2⟩
theorem vx_Zq.kept {C n d : String} {A : Nat → Prop} {U : State} {H H1 : Heap} (h : vx_Zq C n d A U H) (hq : ∀ a : Nat, a < H.size → ¬ A a → H1[a]? = H[a]?) : vx_Zq C n d A U H1 := ⟨va_Zq.kept h.1 hq, vx_L.kept h.2 hq⟩
theorem vx_Zq.narrow {C n d : String} {A B : Nat → Prop} {U : State} {H : Heap} (h : vx_Zq C n d A U H) (hAB : ∀ q, B q → A q) : vx_Zq C n d B U H := ⟨va_Zq.narrow h.1 hAB, vx_L.narrow h.2 hAB⟩
theorem vx_Zqof {args : Array Value} {s : State} {C n d : String} {A : Nat → Prop} (hl : (Cond.laysStatic C n d).before args s = true) (hini : (Cond.initialized C).before args s = true) (h : (Cond.isRef (.static C n d)).before args s = true) (hA : ∀ a : Nat, a < s.heap.size → ¬ A a) : vx_Zq C n d A s s.heap := by
  refine ⟨va_Zqof hl hini h hA, ?_⟩
  obtain ⟨c, k, i, f, a, cell, h1, h2, h3, h4, h5, h6, h7, h8, h9⟩ := Cond.laysStatic_spec hl
  exact ⟨c, k, i, f, a, cell, h1, h2, h3, h4, h5, h6, h7, h8, h9, hA a (Array.getElem?_eq_some_iff.mp h5).1⟩
theorem vx_isRef {C n d : String} {v : Value} {A : Nat → Prop} {s : State} {args : Array Value} (h : va_Z C n d v A s s.heap) (hv : v.isRef = true) : (Cond.isRef (.static C n d)).before args s = true := by
  obtain ⟨cf, kf, fi, f, a, cell, h1, h2, h3, h4, h5, h6, h7, -⟩ := h
  have he : (Term.static C n d).eval args s none [] s = some v := by
    simp [Term.eval, State.fieldNamed?, h1, h2, h4, h5, h6, h7]
  simp only [Cond.before, Cond.holds, Cond.value, he]
  cases v <;> simp_all [Value.isRef]
theorem vx_isRefq {C n d : String} {A : Nat → Prop} {s : State} {args : Array Value} (h : va_Zq C n d A s s.heap) : (Cond.isRef (.static C n d)).before args s = true := by
  rcases h with h | ⟨t, h⟩
  · exact vx_isRef h rfl
  · exact vx_isRef h rfl
/-- the same frame, seen from here: as if the method were called anew in this heap -/
theorem vx_rebase {T : State} (X : Stand p l e R s m args below meth c T locs cells slots) {R' : Room} (hf : R'.frames ≤ R.frames) (hl : R'.locals ≤ R.locals) (hc : cells + R'.cells ≤ R.cells) (hs : slots + R'.slots ≤ R.slots) :
    Stand p l e R' ((T.setVm s.vm).setFrames (.invoking m args :: below)) m args below meth c T [] 0 0 := by
  have htop : (T.setVm s.vm).topJava?.isSome := X.here.top
  have hF : ((T.setVm s.vm).setFrames (.invoking m args :: below)).frames = .invoking m args :: below := State.frames_setFrames _ (State.cur_lt_of_top htop)
  obtain ⟨g₀, hg0⟩ := Option.isSome_iff_exists.mp htop
  obtain ⟨r, hr⟩ := State.topJava?_eq_some.mp hg0
  have hl9 : e.platform.stackLimits (T.setVm s.vm).me = e.platform.stackLimits s.me := X.limits
  have hb9 : (T.setVm s.vm).me.stackBytes = s.me.stackBytes := X.bytes
  refine ⟨X.admits, X.cas, X.clock, hF, ?_, X.hears, X.method, X.code, X.here, X.tail, X.warmed, ?_, ?_, ?_⟩
  · have h := X.room
    have hU : ((T.setVm s.vm).setFrames (.invoking m args :: below)).localsInUse = s.localsInUse := by
      rw [State.localsInUse_invoking hF (meth := meth) (c := c) X.method X.code, State.localsInUse_invoking X.frames X.method X.code]
    simp only [State.hasRoom, Bool.and_eq_true, decide_eq_true_eq] at h ⊢
    obtain ⟨⟨⟨⟨h1, h2, h3, h4, h5, h6⟩, h7⟩, h8⟩, h9⟩ := h
    rw [X.frames, List.length_cons] at h2 h3
    have q1 := X.heapSize
    have q2 := X.used
    simp only [hF, hU, List.length_cons, State.stackLimits_setFrames, State.stackBytes_setFrames, hl9, hb9]
    refine ⟨⟨⟨⟨by omega, by omega, by omega, by omega, by omega, h6⟩, ?_⟩, ?_⟩, X.book⟩
    · show T.heap.size + R'.cells ≤ e.platform.maxCells
      omega
    · show T.slotsUsed + R'.slots ≤ e.platform.maxSlots
      omega
  · rw [State.stackLimits_setFrames]; rfl
  · rw [State.stackBytes_setFrames]; rfl
  · refine ⟨?_, Nat.le_refl _, Nat.le_refl _, ?_, ?_, fun a c9 h9 => ⟨c9, h9, rfl, rfl, fun _ _ => rfl⟩⟩
    · obtain ⟨t, ht, -⟩ := State.frames_cons hr
      show T.setVm s.vm = { ((T.setVm s.vm).setFrames (.invoking m args :: below)).setFrames (T.setVm s.vm).frames with heap := T.heap, slotsUsed := T.slotsUsed }
      rw [State.setFrames_setFrames, State.setFrames_self ht]
      rfl
    · show T.slotsUsed = T.slotsUsed + ((T.heap.toList.drop T.heap.size).map (·.slots.size)).sum
      rw [List.drop_eq_nil_of_le (Nat.le_of_eq Array.length_toList)]
      rfl
    · show ((T.heap.toList.drop T.heap.size).map (·.slots.size)).sum ≤ 0
      rw [List.drop_eq_nil_of_le (Nat.le_of_eq Array.length_toList)]
      exact Nat.le_refl _
/-- 'throw new E()': new; dup; invokespecial; athrow -/
theorem vx_throw0 {cc : ByteArray} {pc : Nat} (hexec : p.tables.exec = Jvm.exec) (hb : c.code = cc) (hl : l.stackTraces = false) {own cls : String} {names : List String} {ik ic mc ms : Nat} {A : Nat → Prop}
    (hown : s.vm.findClass own = some m.cls) (hcls : Bundle.fit cls = true) (hnames : ∀ n ∈ names, Bundle.fit n = true)
    (hk : (Cond.classLink own ik cls).before args s = true) (hini : (Cond.initialized cls).before args s = true) (hat : ∀ w ∈ vx_at0 own ic cls names, w.before args s = true)
    (hgood : ∀ w ∈ Cond.classLink own ik cls :: Cond.initialized cls :: vx_at0 own ic cls names, vx_ot w = true)
    (hU : vx_Zq Bundle.tN "UNASSIGNED_STACK" Bundle.steD A s s.heap) (hN : vx_Zq Bundle.tN "SUPPRESSED_SENTINEL" Bundle.listD A s s.heap) (hS : va_S A s.heap H locs) (hsize : ls.size = c.maxLocals)
    (d0 : decode cc pc = .ok (.new ik, 3)) (d3 : decode cc (pc + 3) = .ok (.dup, 1)) (d4 : decode cc (pc + 4) = .ok (.invokespecial ic, 3)) (d7 : decode cc (pc + 7) = .ok (.athrow, 1))
    (hout : ∀ x ∈ c.exceptionTable.toList, covers x (pc + 7) = false)
    (hRframes : names.length + 3 < R.frames) (hRlocals : (rest.map fun v => v.category).sum + (13 * (names.length + 1) + 42) ≤ R.locals) (hRcells : cells + 1 ≤ R.cells) (hRslots : slots + 6 ≤ R.slots) (hlocks : meth.locks = false)
    (hx : ∀ t : State, s.vm.Alike t.vm → H.size ≤ t.heap.size → (∀ q : Nat, q < H.size → t.heap[q]? = H[q]?) → XC cls s t)
    (hf : ∀ z ∈ locs, free z.base) (hc : cells + 1 ≤ mc) (hs : slots + 6 ≤ ms) :
    W p l e R s m args below meth c H locs cells slots (vx_MQ below Qc XC args s mc ms free) (F0 m pc ls rest) := by
  intro T hT X
  have htr : e.platform.stackTraces = false := (show e.platform.stackTraces = l.stackTraces by rw [X.admits.platform]).trans hl
  have Y := vx_rebase X (R' := { frames := R.frames, locals := R.locals, cells := 1, slots := 6 }) (Nat.le_refl _) (Nat.le_refl _) hRcells hRslots
  obtain ⟨s', hA⟩ : ∃ z, z = (T.setVm s.vm).setFrames (.invoking m args :: below) := ⟨_, rfl⟩
  rw [← hA] at Y
  have hvm : s'.vm = s.vm := by rw [hA]; rfl
  have hhp : s'.heap = H := by rw [hA]; exact hT
  have hW0 : s.WarmedH s'.vm := by rw [hvm]; exact State.WarmedH.refl s
  have hat' : ∀ w ∈ vx_at0 own ic cls names, w.before args s' = true := fun w hw => vx_ot_at hW0 hvm.symm (hgood w (List.mem_cons_of_mem _ (List.mem_cons_of_mem _ hw))) (hat w hw)
  have hk' : (Cond.classLink own ik cls).before args s' = true := vx_ot_at hW0 hvm.symm (hgood _ List.mem_cons_self) hk
  have hini' : (Cond.initialized cls).before args s' = true := vx_ot_at hW0 hvm.symm (hgood _ (List.mem_cons_of_mem _ List.mem_cons_self)) hini
  have hU' : vx_Zq Bundle.tN "UNASSIGNED_STACK" Bundle.steD A s' s'.heap := by rw [hhp]; exact vx_Zq.moved hW0.alike (hU.kept hS.2.1)
  have hN' : vx_Zq Bundle.tN "SUPPRESSED_SENTINEL" Bundle.listD A s' s'.heap := by rw [hhp]; exact vx_Zq.moved hW0.alike (hN.kept hS.2.1)
  have h : ∀ w ∈ Bundle.ownAtoms0 own ic cls names, w.before args s' = true := vx_own hat' (vx_isRefq hU'.1) (vx_isRefq hN'.1) hU'.2.word hN'.2.word
  have hown' : s'.vm.findClass own = some m.cls := by rw [hvm]; exact hown
  have hins : (Cond.instantiable cls 6).before args s' = true := h _ (by simp [Bundle.ownAtoms0])
  obtain ⟨vm₁, cX, kX, hfX, hkX, -, -, X₁, st1⟩ := Y.newCold hexec (own := own) (C := cls) (index := ik) (n := 6) hown' hk' hins hini'
    (g := F0 m pc ls rest) rfl (by rw [hb]; exact d0) (Nat.le_refl _) (Nat.le_refl _)
  generalize hT1 : (T.setVm vm₁).pushCell { cls := cX, slots := kX.instanceTypes.map defaultValue, vm := .none } = T1 at X₁ st1
  have hcat : (Value.ref T.heap.size).category = 1 := rfl
  have hcellA : T1.heap[T.heap.size]? = some (freshCell cX kX) := by rw [← hT1]; exact State.heap_pushCell_size _ _
  have d3' : decode c.code (pc + 3) = .ok (.dup, 1) := by rw [hb]; exact d3
  obtain ⟨U, hsteps, hrun, hend, hW, hsame, ce, hce, hO⟩ := X₁.ctorThrow0 hexec htr (own := own) (cls := cls) (names := names) (ic := ic) hown' hcls hnames h (fun x hx => nomatch hx) hfX hkX hcellA (by rw [hhp, hT]; exact Nat.le_refl _)
    (g := { method := m, pc := pc + 4, locals := ls, stack := .ref T.heap.size :: .ref T.heap.size :: rest, locked := none }) rfl hsize rfl rfl (rest := rest) rfl
    (by rw [hb]; exact d4) (by rw [hb]; exact d7) hout hRframes (by simp only [List.map_cons, List.sum_cons, hcat]; omega) hlocks
  obtain ⟨f1, f2⟩ := vx_frame hsame
  rw [hhp] at f1 f2
  have hWs : s.WarmedH U.vm := State.WarmedH.trans hW0 hW
  have hcl : s.vm.findClass cls = some ce.cls := by
    have h9 := hO.cls
    rw [hvm] at h9
    exact h9
  have hall : s.sameButNew ({ U with vm := s.vm } : State) locs mc ms := by
    subst hA
    obtain ⟨e1, e2⟩ := hsame
    rw [State.setFrames_setFrames] at e1
    have h2 : (T.setVm s.vm).sameButNew ({ U with vm := s.vm } : State) [] (0 + 1) (0 + 6) := ⟨e1, e2⟩
    have h3 := X.same.trans h2
    rw [List.append_nil] at h3
    exact h3.mono hc hs
  refine ⟨U, ?_, .threw T.heap.size, hrun, hend, Or.inr ⟨T.heap.size, rfl, cls, ce, locs, hx U hWs.alike f1 (fun q hq => f2 q hq (fun z hz => nomatch hz)), hce, hO.vm, hcl, hWs, hall, hf⟩⟩
  refine st1 _ ?_
  show Steps p.tables e below (T1.setTop { method := m, pc := pc + 3, locals := ls, stack := .ref T.heap.size :: rest, locked := none }) _
  jvm_step X₁.here [X₁.here.top, hexec, d3', Value.category]
  exact hsteps
/-- 'throw new E("text")': new; dup; ldc; invokespecial; athrow -/
theorem vx_throwS {cc : ByteArray} {pc : Nat} (hexec : p.tables.exec = Jvm.exec) (hb : c.code = cc) (hl : l.stackTraces = false) {own cls text : String} {names : List String} {ik is ic mc ms sa : Nat} {A : Nat → Prop}
    (hown : s.vm.findClass own = some m.cls) (hcls : Bundle.fit cls = true) (hnames : ∀ n ∈ names, Bundle.fit n = true)
    (hk : (Cond.classLink own ik cls).before args s = true) (hini : (Cond.initialized cls).before args s = true) (hstr : vk_R own is text sa s) (hat : ∀ w ∈ vx_atS own ic cls names, w.before args s = true)
    (hgood : ∀ w ∈ Cond.classLink own ik cls :: Cond.initialized cls :: vx_atS own ic cls names, vx_ot w = true)
    (hU : vx_Zq Bundle.tN "UNASSIGNED_STACK" Bundle.steD A s s.heap) (hN : vx_Zq Bundle.tN "SUPPRESSED_SENTINEL" Bundle.listD A s s.heap) (hS : va_S A s.heap H locs) (hsize : ls.size = c.maxLocals)
    (d0 : decode cc pc = .ok (.new ik, 3)) (d3 : decode cc (pc + 3) = .ok (.dup, 1)) (d4 : decode cc (pc + 4) = .ok (.ldc is, 2)) (d6 : decode cc (pc + 6) = .ok (.invokespecial ic, 3)) (d9 : decode cc (pc + 9) = .ok (.athrow, 1))
    (hout : ∀ x ∈ c.exceptionTable.toList, covers x (pc + 9) = false)
    (hRframes : names.length + 3 < R.frames) (hRlocals : (rest.map fun v => v.category).sum + (13 * (names.length + 1) + 43) ≤ R.locals) (hRcells : cells + 1 ≤ R.cells) (hRslots : slots + 6 ≤ R.slots) (hlocks : meth.locks = false)
    (hx : ∀ t : State, s.vm.Alike t.vm → H.size ≤ t.heap.size → (∀ q : Nat, q < H.size → t.heap[q]? = H[q]?) → XC cls s t)
    (hf : ∀ z ∈ locs, free z.base) (hc : cells + 1 ≤ mc) (hs : slots + 6 ≤ ms) :
    W p l e R s m args below meth c H locs cells slots (vx_MQ below Qc XC args s mc ms free) (F0 m pc ls rest) := by
  intro T hT X
  have htr : e.platform.stackTraces = false := (show e.platform.stackTraces = l.stackTraces by rw [X.admits.platform]).trans hl
  have Y := vx_rebase X (R' := { frames := R.frames, locals := R.locals, cells := 1, slots := 6 }) (Nat.le_refl _) (Nat.le_refl _) hRcells hRslots
  obtain ⟨s', hA⟩ : ∃ z, z = (T.setVm s.vm).setFrames (.invoking m args :: below) := ⟨_, rfl⟩
  rw [← hA] at Y
  have hvm : s'.vm = s.vm := by rw [hA]; rfl
  have hhp : s'.heap = H := by rw [hA]; exact hT
  have hW0 : s.WarmedH s'.vm := by rw [hvm]; exact State.WarmedH.refl s
  have hat' : ∀ w ∈ vx_atS own ic cls names, w.before args s' = true := fun w hw => vx_ot_at hW0 hvm.symm (hgood w (List.mem_cons_of_mem _ (List.mem_cons_of_mem _ hw))) (hat w hw)
  have hk' : (Cond.classLink own ik cls).before args s' = true := vx_ot_at hW0 hvm.symm (hgood _ List.mem_cons_self) hk
  have hini' : (Cond.initialized cls).before args s' = true := vx_ot_at hW0 hvm.symm (hgood _ (List.mem_cons_of_mem _ List.mem_cons_self)) hini
  have hU' : vx_Zq Bundle.tN "UNASSIGNED_STACK" Bundle.steD A s' s'.heap := by rw [hhp]; exact vx_Zq.moved hW0.alike (hU.kept hS.2.1)
  have hN' : vx_Zq Bundle.tN "SUPPRESSED_SENTINEL" Bundle.listD A s' s'.heap := by rw [hhp]; exact vx_Zq.moved hW0.alike (hN.kept hS.2.1)
  have h : ∀ w ∈ Bundle.ownAtoms own ic cls names, w.before args s' = true := vx_own hat' (vx_isRefq hU'.1) (vx_isRefq hN'.1) hU'.2.word hN'.2.word
  have hown' : s'.vm.findClass own = some m.cls := by rw [hvm]; exact hown
  have hins : (Cond.instantiable cls 6).before args s' = true := h _ (by simp [Bundle.ownAtoms])
  obtain ⟨vm₁, cX, kX, hfX, hkX, -, -, X₁, st1⟩ := Y.newCold hexec (own := own) (C := cls) (index := ik) (n := 6) hown' hk' hins hini'
    (g := F0 m pc ls rest) rfl (by rw [hb]; exact d0) (Nat.le_refl _) (Nat.le_refl _)
  generalize hT1 : (T.setVm vm₁).pushCell { cls := cX, slots := kX.instanceTypes.map defaultValue, vm := .none } = T1 at X₁ st1
  have hcat : (Value.ref T.heap.size).category = 1 := rfl
  have hcellA : T1.heap[T.heap.size]? = some (freshCell cX kX) := by rw [← hT1]; exact State.heap_pushCell_size _ _
  have d3' : decode c.code (pc + 3) = .ok (.dup, 1) := by rw [hb]; exact d3
  have d4' : decode c.code (pc + 4) = .ok (.ldc is, 2) := by rw [hb]; exact d4
  have hstr' : vk_R own is text sa s' := vk_R.warm hW0 hstr
  obtain ⟨U, hsteps, hrun, hend, hW, hsame, ce, hce, hO⟩ := X₁.ctorThrowS hexec htr (own := own) (cls := cls) (names := names) (ic := ic) hown' hcls hnames h (fun x hx => nomatch hx) hfX hkX hcellA (by rw [hhp, hT]; exact Nat.le_refl _) (msg := .ref sa) rfl
    (g := { method := m, pc := pc + 6, locals := ls, stack := .ref sa :: .ref T.heap.size :: .ref T.heap.size :: rest, locked := none }) rfl hsize rfl rfl (rest := rest) rfl
    (by rw [hb]; exact d6) (by rw [hb]; exact d9) hout hRframes (by simp only [List.map_cons, List.sum_cons, hcat]; omega) hlocks
  obtain ⟨f1, f2⟩ := vx_frame hsame
  rw [hhp] at f1 f2
  have hWs : s.WarmedH U.vm := State.WarmedH.trans hW0 hW
  have hcl : s.vm.findClass cls = some ce.cls := by
    have h9 := hO.cls
    rw [hvm] at h9
    exact h9
  have hall : s.sameButNew ({ U with vm := s.vm } : State) locs mc ms := by
    subst hA
    obtain ⟨e1, e2⟩ := hsame
    rw [State.setFrames_setFrames] at e1
    have h2 : (T.setVm s.vm).sameButNew ({ U with vm := s.vm } : State) [] (0 + 1) (0 + 6) := ⟨e1, e2⟩
    have h3 := X.same.trans h2
    rw [List.append_nil] at h3
    exact h3.mono hc hs
  refine ⟨U, ?_, .threw T.heap.size, hrun, hend, Or.inr ⟨T.heap.size, rfl, cls, ce, locs, hx U hWs.alike f1 (fun q hq => f2 q hq (fun z hz => nomatch hz)), hce, hO.vm, hcl, hWs, hall, hf⟩⟩
  refine st1 _ ?_
  show Steps p.tables e below (T1.setTop { method := m, pc := pc + 3, locals := ls, stack := .ref T.heap.size :: rest, locked := none }) _
  jvm_step X₁.here [X₁.here.top, hexec, d3', Value.category]
  exact X₁.ldcString hexec (own := own) (text := text) (index := is) (a := sa) hown' hstr'.1 hstr'.2
    (g := { method := m, pc := pc + 4, locals := ls, stack := .ref T.heap.size :: .ref T.heap.size :: rest, locked := none }) rfl d4' _ hsteps
/-- 'throw new E("text")', the text by a wide index -/
theorem vx_throwSW {cc : ByteArray} {pc : Nat} (hexec : p.tables.exec = Jvm.exec) (hb : c.code = cc) (hl : l.stackTraces = false) {own cls text : String} {names : List String} {ik is ic mc ms sa : Nat} {A : Nat → Prop}
    (hown : s.vm.findClass own = some m.cls) (hcls : Bundle.fit cls = true) (hnames : ∀ n ∈ names, Bundle.fit n = true)
    (hk : (Cond.classLink own ik cls).before args s = true) (hini : (Cond.initialized cls).before args s = true) (hstr : vk_R own is text sa s) (hat : ∀ w ∈ vx_atS own ic cls names, w.before args s = true)
    (hgood : ∀ w ∈ Cond.classLink own ik cls :: Cond.initialized cls :: vx_atS own ic cls names, vx_ot w = true)
    (hU : vx_Zq Bundle.tN "UNASSIGNED_STACK" Bundle.steD A s s.heap) (hN : vx_Zq Bundle.tN "SUPPRESSED_SENTINEL" Bundle.listD A s s.heap) (hS : va_S A s.heap H locs) (hsize : ls.size = c.maxLocals)
    (d0 : decode cc pc = .ok (.new ik, 3)) (d3 : decode cc (pc + 3) = .ok (.dup, 1)) (d4 : decode cc (pc + 4) = .ok (.ldc_w is, 3)) (d7 : decode cc (pc + 7) = .ok (.invokespecial ic, 3)) (d10 : decode cc (pc + 10) = .ok (.athrow, 1))
    (hout : ∀ x ∈ c.exceptionTable.toList, covers x (pc + 10) = false)
    (hRframes : names.length + 3 < R.frames) (hRlocals : (rest.map fun v => v.category).sum + (13 * (names.length + 1) + 43) ≤ R.locals) (hRcells : cells + 1 ≤ R.cells) (hRslots : slots + 6 ≤ R.slots) (hlocks : meth.locks = false)
    (hx : ∀ t : State, s.vm.Alike t.vm → H.size ≤ t.heap.size → (∀ q : Nat, q < H.size → t.heap[q]? = H[q]?) → XC cls s t)
    (hf : ∀ z ∈ locs, free z.base) (hc : cells + 1 ≤ mc) (hs : slots + 6 ≤ ms) :
    W p l e R s m args below meth c H locs cells slots (vx_MQ below Qc XC args s mc ms free) (F0 m pc ls rest) := by
  intro T hT X
  have htr : e.platform.stackTraces = false := (show e.platform.stackTraces = l.stackTraces by rw [X.admits.platform]).trans hl
  have Y := vx_rebase X (R' := { frames := R.frames, locals := R.locals, cells := 1, slots := 6 }) (Nat.le_refl _) (Nat.le_refl _) hRcells hRslots
  obtain ⟨s', hA⟩ : ∃ z, z = (T.setVm s.vm).setFrames (.invoking m args :: below) := ⟨_, rfl⟩
  rw [← hA] at Y
  have hvm : s'.vm = s.vm := by rw [hA]; rfl
  have hhp : s'.heap = H := by rw [hA]; exact hT
  have hW0 : s.WarmedH s'.vm := by rw [hvm]; exact State.WarmedH.refl s
  have hat' : ∀ w ∈ vx_atS own ic cls names, w.before args s' = true := fun w hw => vx_ot_at hW0 hvm.symm (hgood w (List.mem_cons_of_mem _ (List.mem_cons_of_mem _ hw))) (hat w hw)
  have hk' : (Cond.classLink own ik cls).before args s' = true := vx_ot_at hW0 hvm.symm (hgood _ List.mem_cons_self) hk
  have hini' : (Cond.initialized cls).before args s' = true := vx_ot_at hW0 hvm.symm (hgood _ (List.mem_cons_of_mem _ List.mem_cons_self)) hini
  have hU' : vx_Zq Bundle.tN "UNASSIGNED_STACK" Bundle.steD A s' s'.heap := by rw [hhp]; exact vx_Zq.moved hW0.alike (hU.kept hS.2.1)
  have hN' : vx_Zq Bundle.tN "SUPPRESSED_SENTINEL" Bundle.listD A s' s'.heap := by rw [hhp]; exact vx_Zq.moved hW0.alike (hN.kept hS.2.1)
  have h : ∀ w ∈ Bundle.ownAtoms own ic cls names, w.before args s' = true := vx_own hat' (vx_isRefq hU'.1) (vx_isRefq hN'.1) hU'.2.word hN'.2.word
  have hown' : s'.vm.findClass own = some m.cls := by rw [hvm]; exact hown
  have hins : (Cond.instantiable cls 6).before args s' = true := h _ (by simp [Bundle.ownAtoms])
  obtain ⟨vm₁, cX, kX, hfX, hkX, -, -, X₁, st1⟩ := Y.newCold hexec (own := own) (C := cls) (index := ik) (n := 6) hown' hk' hins hini'
    (g := F0 m pc ls rest) rfl (by rw [hb]; exact d0) (Nat.le_refl _) (Nat.le_refl _)
  generalize hT1 : (T.setVm vm₁).pushCell { cls := cX, slots := kX.instanceTypes.map defaultValue, vm := .none } = T1 at X₁ st1
  have hcat : (Value.ref T.heap.size).category = 1 := rfl
  have hcellA : T1.heap[T.heap.size]? = some (freshCell cX kX) := by rw [← hT1]; exact State.heap_pushCell_size _ _
  have d3' : decode c.code (pc + 3) = .ok (.dup, 1) := by rw [hb]; exact d3
  have d4' : decode c.code (pc + 4) = .ok (.ldc_w is, 3) := by rw [hb]; exact d4
  have hstr' : vk_R own is text sa s' := vk_R.warm hW0 hstr
  obtain ⟨U, hsteps, hrun, hend, hW, hsame, ce, hce, hO⟩ := X₁.ctorThrowS hexec htr (own := own) (cls := cls) (names := names) (ic := ic) hown' hcls hnames h (fun x hx => nomatch hx) hfX hkX hcellA (by rw [hhp, hT]; exact Nat.le_refl _) (msg := .ref sa) rfl
    (g := { method := m, pc := pc + 7, locals := ls, stack := .ref sa :: .ref T.heap.size :: .ref T.heap.size :: rest, locked := none }) rfl hsize rfl rfl (rest := rest) rfl
    (by rw [hb]; exact d7) (by rw [hb]; exact d10) hout hRframes (by simp only [List.map_cons, List.sum_cons, hcat]; omega) hlocks
  obtain ⟨f1, f2⟩ := vx_frame hsame
  rw [hhp] at f1 f2
  have hWs : s.WarmedH U.vm := State.WarmedH.trans hW0 hW
  have hcl : s.vm.findClass cls = some ce.cls := by
    have h9 := hO.cls
    rw [hvm] at h9
    exact h9
  have hall : s.sameButNew ({ U with vm := s.vm } : State) locs mc ms := by
    subst hA
    obtain ⟨e1, e2⟩ := hsame
    rw [State.setFrames_setFrames] at e1
    have h2 : (T.setVm s.vm).sameButNew ({ U with vm := s.vm } : State) [] (0 + 1) (0 + 6) := ⟨e1, e2⟩
    have h3 := X.same.trans h2
    rw [List.append_nil] at h3
    exact h3.mono hc hs
  refine ⟨U, ?_, .threw T.heap.size, hrun, hend, Or.inr ⟨T.heap.size, rfl, cls, ce, locs, hx U hWs.alike f1 (fun q hq => f2 q hq (fun z hz => nomatch hz)), hce, hO.vm, hcl, hWs, hall, hf⟩⟩
  refine st1 _ ?_
  show Steps p.tables e below (T1.setTop { method := m, pc := pc + 3, locals := ls, stack := .ref T.heap.size :: rest, locked := none }) _
  jvm_step X₁.here [X₁.here.top, hexec, d3', Value.category]
  exact X₁.ldcStringW hexec (own := own) (text := text) (index := is) (a := sa) hown' hstr'.1 hstr'.2
    (g := { method := m, pc := pc + 4, locals := ls, stack := .ref T.heap.size :: .ref T.heap.size :: rest, locked := none }) rfl d4' _ hsteps
end Ends
section Bodies
variable {l : Launch}
theorem vx_ofW {y : MethodName} {ws ws' : List Cond} {rm : Room} {Pc : Array Value → State → Prop} {Qc : Array Value → State → Outcome → State → Prop} {XC : String → State → State → Prop} {mc ms : Nat} {free : Addr → Prop} {cc : ByteArray} {maxL : Nat} {ret : Option FieldType}
    (hy : plainName y.cls = true) (hw : ws = Cond.code y cc maxL ret :: ws')
    (body : ∀ p e s m args below meth c s₁, BodyLoose p l y (headSpec ws rm) cc maxL ret e s m args below meth c s₁ → c.maxLocals = maxL → (∀ x ∈ c.exceptionTable.toList, False) → Pc args s →
      W p l e (headSpec ws rm).room s m args below meth c s.heap [] 0 0 (vx_MQ below Qc XC args s mc ms free) (entryFrame m args maxL)) : vx_Met l y ws rm Pc Qc XC mc ms free := by
  refine MetFree.of_bodyS (code := cc) (maxLocals := maxL) (ret := ret) hy ?_ ?_
  · intro args s m h hn
    obtain ⟨meth, c, h1, h2, h3, h4, h5, h6, -, -⟩ := Cond.code_spec hn (atoms_spec (ws := ws) h _ (by rw [hw]; exact List.mem_cons_self))
    exact ⟨meth, c, h1, h2, h3, h4, h5, h6⟩
  · intro p e s m args below meth c s₁ B hml hP _
    have hh0 : s₁.heap = s.heap := by rw [B.state]; rfl
    have ht : ∀ x ∈ c.exceptionTable.toList, False := by
      obtain ⟨meth9, c9, h1, h2, -, -, -, -, h7, -⟩ := Cond.code_spec B.named (atoms_spec (ws := ws) B.pre _ (by rw [hw]; exact List.mem_cons_self))
      cases Option.some.inj (h1.symm.trans B.method)
      cases Option.some.inj (h2.symm.trans (Stand.of_body B).code)
      intro x hx
      rw [Array.isEmpty_iff.mp h7] at hx
      cases hx
    obtain ⟨t, a1, o, b1, b2, b3⟩ := body p e s m args below meth c s₁ B hml ht hP s₁ hh0 (Stand.of_body B)
    exact ⟨t, o, a1, b1, b2, b3⟩
/-- the table of a body with handlers -/
theorem vx_table {p : Program} {x y : MethodName} {S : Spec} {cc bytes : ByteArray} {maxL maxL' : Nat} {ret ret' : Option FieldType} {e : Env} {s s₁ : State} {m : MethodId} {args : Array Value} {below : List Frame} {meth : Method} {c : Code} {hh : List (Nat × Nat × Nat × Nat)}
    (B : BodyLoose p l y S cc maxL ret e s m args below meth c s₁) (h : (Cond.codeWith y bytes maxL' ret' hh).before args s = true) : c.exceptionTable.toList = tableOf hh := by
  obtain ⟨m9, meth9, c9, hn9, h1, h2, -, -, h6, -⟩ := Cond.codeWith_spec h
  cases Option.some.inj (hn9.symm.trans B.named)
  cases Option.some.inj (h1.symm.trans B.method)
  cases Option.some.inj (h2.symm.trans (Stand.of_body B).code)
  rw [← h6, table_eq]
end Bodies
end VXA
/-! ===== END ===== -/
/-! ===== BEGIN a static call of a method with an exception table ===== -/
section VXS
variable {p : Program} {l : Launch} {e : Env} {R : Room} {s : State} {m : MethodId} {args : Array Value} {below : List Frame} {meth : Method} {c : Code} {T : State} {H : Heap} {locs : List Loc} {cells slots : Nat}
abbrev vx_CSW (R : Room) (s : State) (args : Array Value) (own : String) (index : Nat) (y : MethodName) (bytes : ByteArray) (maxL : Nat) (ret : Option FieldType) (hh : List (Nat × Nat × Nat × Nat)) (ws : List Cond) (rm : Room) (mc ms n : Nat) : Prop :=
  (rm.cells = mc ∧ rm.slots = ms ∧ rm.frames + 1 ≤ R.frames ∧ 8 + (maxL + 11) + rm.locals ≤ R.locals ∧ (∀ w ∈ ws, ∀ (a' : Array Value) (U : State), s.WarmedH U.vm → w.before a' U = true) ∧ Cond.codeWith y bytes maxL ret hh ∈ ws) ∧
  (Cond.codeWith y bytes maxL ret hh).before args s = true ∧ (Cond.initialized y.cls).before args s = true ∧ (y.cls ≠ "java/lang/invoke/MethodHandle" ∧ y.cls ≠ "java/lang/invoke/VarHandle") ∧
  (∀ sig, parseMethodDescriptor y.desc = some sig → n = sig.parameters.length) ∧ (Cond.methodLink own index y).before args s = true ∧ (Cond.static y).before args s = true
theorem vx_cwSW {own : String} {index maxL mc ms : Nat} {y : MethodName} {bytes : ByteArray} {ret : Option FieldType} {hh : List (Nat × Nat × Nat × Nat)} {Ts ws ws' : List Cond} {rm : Room} (n : Nat) (ht : ∀ w ∈ Ts, w.before args s = true) (hT : GoodIn Ts (va_wsS own index y ws)) (hw : ws = Cond.codeWith y bytes maxL ret hh :: ws') (hrc : rm.cells = mc) (hrs : rm.slots = ms)
    (hd : y.cls ≠ "java/lang/invoke/MethodHandle" ∧ y.cls ≠ "java/lang/invoke/VarHandle" ∧ (parseMethodDescriptor y.desc).map (fun d => d.parameters.length) = some n) (hR : rm.frames + 1 ≤ R.frames ∧ 8 + (maxL + 11) + rm.locals ≤ R.locals) :
    vx_CSW R s args own index y bytes maxL ret hh ws rm mc ms n := by
  have ok : ∀ w ∈ va_wsS own index y ws, w.before args s = true := fun w h => ht w (hT w h).1
  have hG : GoodIn Ts ws := fun w h => hT w (by unfold va_wsS; exact List.mem_append_right _ h)
  have hc : Cond.codeWith y bytes maxL ret hh ∈ ws := by rw [hw]; exact List.mem_cons_self
  refine ⟨⟨hrc, hrs, hR.1, hR.2, pay_in ht hG, hc⟩, ht _ (hG _ hc).1, ok _ (by simp [va_wsS]), ⟨hd.1, hd.2.1⟩, fun sig h => ?_, ok _ (by simp [va_wsS]), ok _ (by simp [va_wsS])⟩
  have h2 := hd.2.2
  rw [h] at h2
  exact (Option.some.inj h2).symm
theorem vx_callSW (X : Stand p l e R s m args below meth c T locs cells slots) (hexec : p.tables.exec = Jvm.exec) {own : String} {index : Nat} {y : MethodName} {bytes : ByteArray} {maxL : Nat} {ret : Option FieldType} {hh : List (Nat × Nat × Nat × Nat)}
    (hown : s.vm.findClass own = some m.cls) (hlink : (Cond.methodLink own index y).before args s = true) (hstat : (Cond.static y).before args s = true) (hinit : (Cond.initialized y.cls).before args s = true)
    (hcode : (Cond.codeWith y bytes maxL ret hh).before args s = true) (hy : y.cls ≠ "java/lang/invoke/MethodHandle" ∧ y.cls ≠ "java/lang/invoke/VarHandle")
    {W9 : Nat} {Pre : Pt → Array Value → Prop} {Post : Pt → Array Value → Option Value → Pt → Prop} (hK : Back l R p e below s args y 3 W9 Pre Post)
    {g : JFrame} (hg : g.method = m) (hsize : g.locals.size = c.maxLocals) {argsL rest : List Value} (hlen : ∀ sig, parseMethodDescriptor y.desc = some sig → argsL.length = sig.parameters.length)
    (hstack : g.stack = argsL.reverse ++ rest) (hW : 2 * g.monitorRoom + (rest.map fun v => v.category).sum ≤ W9) (hdg : decode c.code g.pc = .ok (.invokestatic index, 3))
    (hpre : ∀ vm₁, s.WarmedH vm₁ → Pre ⟨T.setVm vm₁, locs, cells, slots⟩ argsL.toArray) :
    ∃ (v : Option Value) (vm₁ : Vm) (B : Pt), s.WarmedH vm₁ ∧ Stand p l e R s m args below meth c B.U B.locs B.cells B.slots ∧ Post ⟨T.setVm vm₁, locs, cells, slots⟩ argsL.toArray v B ∧
      ∀ target, Steps p.tables e below (B.U.setTop { g with pc := g.pc + 3, stack := v.toList ++ rest }) target → Steps p.tables e below (T.setTop g) target := by
  obtain ⟨mk, methM, cM, hnamed, hmethM, -, -, -, -, -, -, hsigM⟩ := Cond.codeWith_spec hcode
  have hstatic : methM.isStatic = true := Cond.static_spec hnamed hmethM hstat
  obtain ⟨kP, hkP, -⟩ := className_of_methodNamed hnamed
  have hinitP : kP.init = .initialized := Cond.initialized_spec (findClass_of_methodNamed hnamed) hkP hinit
  obtain ⟨vm₁, X₁, hstep₁⟩ := X.invokestatic hexec hown hlink hnamed hmethM hstatic hkP hinitP hy (g := g) hg (argsL := argsL) (rest := rest) (hlen _ hsigM) hstack hdg
  obtain ⟨v, B, X', hpost, hsteps⟩ := hK m meth c ⟨T.setVm vm₁, locs, cells, slots⟩ { g with stack := rest } (.invokestatic index) mk argsL.toArray X₁ hg hsize hdg hW (X₁.named hnamed) (hpre vm₁ X₁.warmed)
  exact ⟨v, vm₁, B, X₁.warmed, X', hpost, fun target h => hstep₁ _ fun acts => by rw [doInvoke_state]; exact hsteps.trans h⟩
theorem vx_runSW {y : MethodName} {bytes cc : ByteArray} {maxL nL mc ms n index : Nat} {ret : Option FieldType} {hh : List (Nat × Nat × Nat × Nat)} {ws : List Cond} {rm : Room} {Pc : Array Value → State → Prop} {Qc : Array Value → State → Outcome → State → Prop} {free : Addr → Prop} {Ts : List Cond} {own : String} {As rest : List Value} {g : JFrame}
    (S : CallFix p m c cc nL s args Ts own) (hM : Met l y ws rm Pc Qc mc ms free) (cw : vx_CSW R s args own index y bytes maxL ret hh ws rm mc ms n) (hp : PreS s H Pc As)
    (hg : g.method = m) (hn : As.length = n) (hsize : g.locals.size = nL) (hstack : g.stack = As.reverse ++ rest) (hW : 2 * g.monitorRoom + (rest.map fun v => v.category).sum ≤ 8) (hdg : decode cc g.pc = .ok (.invokestatic index, 3)) (hf : cells + mc ≤ R.cells ∧ slots + ms ≤ R.slots) :
    va_Run p l e R s m args below meth c H locs cells slots mc ms g rest (Qc As.toArray) (free) := by
  obtain ⟨⟨hrc, hrs, hfr, hlo, hws, hcw⟩, hcode, hini, hy, hlen, hl, hstt⟩ := cw
  have hK : Back l R p e below s args y 3 8 (PreOf R mc ms Pc) (PostOf Qc mc ms free) := va_backW (hh := hh) (bytes := bytes) (maxL := maxL) (ret := ret) hM hp.1 hrc hrs hfr hlo hws hcw (fun a' U hW => word_at hW (Or.inl (by first | rfl | simp [Cond.onTables, Cond.keeps, Cond.steady])) hini)
  obtain ⟨hx, hb, hml, ho, -⟩ := S
  intro T hT X
  obtain ⟨v, vm₁, ⟨U', l2, c2, s2⟩, hW₁, X', ⟨g', mk, t, L, e1, e2, hq, h1, hL, h2, h3⟩, st⟩ := vx_callSW X hx (hh := hh) (bytes := bytes) (maxL := maxL) (ret := ret) ho hl hstt hini hcode hy hK hg (hsize.trans hml.symm) (argsL := As) (rest := rest) (fun sig h => hn.trans (hlen sig h)) hstack hW (by rw [hb]; exact hdg)
    (fun vm₁ hW₁ => ⟨hf.1, hf.2, hp.2 (T.setVm vm₁) hT hW₁⟩)
  dsimp only [Pt.U, Pt.locs, Pt.cells, Pt.slots] at X' e1 e2 h1 h2 h3 st
  subst h1; subst h2; subst h3
  exact ⟨v, (T.setVm vm₁).calling g' mk As.toArray, t, U', L, hT, X', hL, e1, e2, hq, st⟩
/-- not caught here, past rows that name other classes: it goes on to the caller -/
theorem vx_outP {p : Program} {l : Launch} {e : Env} {R : Room} {s : State} {m : MethodId} {args : Array Value} {below : List Frame} {meth : Method} {c : Code} {H : Heap} {locs : List Loc} {cells slots : Nat} {free : Addr → Prop} {ls : Array Slot} {rest : List Value} {Qc : Array Value → State → Outcome → State → Prop} {XC : String → State → State → Prop}
    {pc : Nat} {own E : String} {ce : Cell} {q : Addr} {mc ms : Nat} (hown : s.vm.findClass own = some m.cls) (hlocks : meth.locks = false)
    (hpass : ∀ z ∈ c.exceptionTable.toList, covers z pc = false ∨ (z.catchType ≠ 0 ∧ ∃ nm : String, (Cond.classLink own z.catchType nm).before args s = true ∧ va_Nc E nm s)) (hcell : H[q]? = some ce) (hv : ce.vm = .none) (hcl : s.vm.findClass E = some ce.cls)
    (hx : ∀ t : State, t.heap = H → s.vm.Alike t.vm → XC E s t) (hf : ∀ z ∈ locs, free z.base) (hc : cells ≤ mc) (hs : slots ≤ ms) :
    vx_W p l e R s m args below meth c H locs cells slots (vx_MQ below Qc XC args s mc ms free) (F0 m pc ls rest) q := by
  intro T hT X
  have hpl : e.platform.magicAccessors = ({} : Platform).magicAccessors := by rw [X.admits.platform]
  obtain ⟨vm', hW', X', st⟩ := X.outThrough hlocks q (g := F0 m pc ls rest) rfl rfl rfl (cell := ce) (by rw [hT]; exact hcell) (by rw [hv]; rfl)
    (by obtain ⟨k9, h9, -⟩ := Vm.findClass_spec hcl; exact ⟨k9, h9⟩) (fun z hz => by
      rcases hpass z hz with h | ⟨hz0, nm, hl1, hn1⟩
      · exact Or.inl h
      · obtain ⟨c6, hc6, hcl6⟩ := Cond.classLink_spec hown hl1 e.platform hpl
        obtain ⟨a8, b8, h1, h2, h3⟩ := hn1
        cases Option.some.inj (h1.symm.trans hcl)
        cases Option.some.inj (h2.symm.trans hc6)
        exact Or.inr ⟨hz0, _, hcl6, h3⟩)
  obtain ⟨g₀, hfr⟩ := X'.frames_eq
  have hcell9 : ((T.setVm vm').setFrames (.throwing q :: below)).heap[q]? = some ce := by
    show T.heap[q]? = some ce
    rw [hT]; exact hcell
  have hend : Ended ((T.setVm vm').setFrames (.throwing q :: below)) below (.threw q) := State.frames_setFrames _ (State.cur_lt_of_frames hfr)
  refine ⟨(T.setVm vm').setFrames (.throwing q :: below), ?_, .threw q, X'.here.running, hend, Or.inr ⟨q, rfl, E, ce, locs, hx _ hT (X'.ends _).1.alike, hcell9, hv, hcl, (X'.ends _).1, (X'.ends _).2.mono hc hs, hf⟩⟩
  rw [X.pushThrowing_eq]
  exact st
/-- a thing of a world lies in the heap -/
theorem vx_lt {D : va_G} {cl : List vw_C} {ws : va_W} {H1 : Heap} (h : va_P D cl ws H1) {k : Nat} {q : Nat × va_E} (hk : ws[k]? = some q) : q.1 < H1.size := (h k q hk).lt
end VXS
/-! ===== END ===== -/
/-! ===== BEGIN methods with a table of their own: called by a name, returning or throwing ===== -/
section VXH
/-! vx_backW, vx_callVX, vx_callSX, vx_callVW, vx_runVW, vx_runVX, vx_runSX, vx_ofWH follow the same proofs as their sisters above (Free/Laws.lean, Shelf42/LK1.lean); vx_outP calls Shelf42/NT130.lean (outThrough). -/
section
variable {l : Launch} {R : Room} {p : Program} {e : Env} {below : List Frame} {s : State} {sargs : Array Value} {y : MethodName} {len W9 : Nat}
theorem vx_backW {ws : List Cond} {rm : Room} {Pc : Array Value → State → Prop} {Qc : Array Value → State → Outcome → State → Prop} {XC : String → State → State → Prop} {mc ms : Nat} {free : Addr → Prop} {bytes : ByteArray} {maxL : Nat} {ret : Option FieldType} {hh : List (Nat × Nat × Nat × Nat)}
    (hM : vx_Met l y ws rm Pc Qc XC mc ms free) (hblind : FrameBlind Pc) (hrc : rm.cells = mc) (hrs : rm.slots = ms)
    (hframes : rm.frames + 1 ≤ R.frames) (hlocals : W9 + (maxL + 11) + rm.locals ≤ R.locals)
    (hws : ∀ w ∈ ws, ∀ a' U, s.WarmedH U.vm → w.before a' U = true) (hcode : Cond.codeWith y bytes maxL ret hh ∈ ws) (hinit : ∀ a' U, s.WarmedH U.vm → (Cond.initialized y.cls).before a' U = true) :
    vx_Back l R p e below s sargs y len W9 (PreOf R mc ms Pc) (PostOf Qc mc ms free) (vx_Post XC mc ms free) := by
  intro m meth c A g ig mk a X hg hsize hdg hW hn hp
  have h1 : (headSpec ws rm).pre.before a A.U = true := atoms_intro fun w hw => hws w hw _ _ X.warmed
  have h2 : (Cond.codeWith y bytes maxL ret hh).before a A.U = true := hws _ hcode _ _ X.warmed
  have h3 : (Cond.initialized y.cls).before a A.U = true := hinit _ _ X.warmed
  have h4 : A.cells + (headSpec ws rm).room.cells ≤ R.cells := by rw [show (headSpec ws rm).room.cells = mc from hrc]; exact hp.1
  have h5 : A.slots + (headSpec ws rm).room.slots ≤ R.slots := by rw [show (headSpec ws rm).room.slots = ms from hrs]; exact hp.2.1
  have hPc : Pc a (A.U.calling g mk a) := hblind _ _ _ _ hp.2.2
  obtain ⟨U, Ls, c0, s0⟩ := A
  dsimp only [Pt.U, Pt.locs, Pt.cells, Pt.slots] at h1 h2 h3 h4 h5 X hn hPc ⊢
  obtain ⟨m9, methY, cY, hn9, hmY, hcY, -, hlY, -⟩ := Cond.codeWith_spec h2
  cases Option.some.inj (hn9.symm.trans hn)
  obtain ⟨kY, hkY, -⟩ := className_of_methodNamed hn
  have hinitY : kY.init = .initialized := Cond.initialized_spec (findClass_of_methodNamed hn) hkY h3
  have h : At U g.method c below := by rw [hg]; exact X.here
  have hlocals9 : W9 + (maxL + 11) + (headSpec ws rm).room.locals ≤ R.locals := hlocals
  have happ : (headSpec ws rm).appliesLoose y e.platform (U.calling g mk a) = true :=
    Spec.appliesLoose_calling (g := g) h hdg hn hkY hinitY
      (X.room_calling (g := g) (R' := (headSpec ws rm).room) hsize hmY hcY hframes (by rw [hlY]; omega) h4 h5) h1
  obtain ⟨mid, hmid⟩ := h.above
  have hfr : (U.setTop g).frames = (.java g :: mid) ++ below := by rw [State.frames_setTop' g h.top, hmid]; rfl
  obtain ⟨o, s₂, hsteps, -, hend, hq⟩ := Steps.callFree hM p X.admits X.cas X.clock (acts := []) hfr happ hPc trivial
  have hq' : vx_Q Qc XC mc ms free a (U.calling g mk a) o s₂ := hq
  rw [State.frames_setTop' g h.top] at hend
  obtain ⟨g₀, hg0⟩ := Option.isSome_iff_exists.mp h.top
  obtain ⟨r, hr⟩ := State.topJava?_eq_some.mp hg0
  have hr' : (({ U with heap := s₂.heap, slotsUsed := s₂.slotsUsed } : State).setVm s₂.vm).frames = .java g₀ :: r := hr
  rcases hq' with ⟨hqc, L, hfe, hL⟩ | ⟨q, rfl, E, ce, L, hx, hce, hcv, hcl, hW₂, hsm, hL⟩
  · obtain ⟨⟨v, rfl⟩, hW₂, e2, q2, q3, q4, q5, q6⟩ := id hfe
    have e3 : s₂ = ({ (U.calling g mk a).setFrames s₂.frames with heap := s₂.heap, slotsUsed := s₂.slotsUsed } : State).setVm s₂.vm := by
      have : s₂ = ({ s₂ with vm := (U.calling g mk a).vm } : State).setVm s₂.vm := rfl
      rw [e2] at this
      exact this
    obtain ⟨c₂, i₂, len₂, hc₂, hd₂, hf₂⟩ := hend
    have hW' : U.WarmedH s₂.vm := hW₂
    have hcc : c₂ = c := by
      have h1 : s₂.code? g.method = U.code? g.method := by
        rw [State.code?_eq, State.code?_eq, hW'.alike.method?]
      exact Option.some.inj (hc₂.symm.trans (h1.trans h.code))
    subst hcc
    have hlen : len₂ = len := by rw [hdg] at hd₂; cases hd₂; rfl
    subst hlen
    have hs₂ : s₂ = (({ U with heap := s₂.heap, slotsUsed := s₂.slotsUsed } : State).setVm s₂.vm).setTop { g with pc := g.pc + len₂, stack := v.toList ++ g.stack } := by
      refine e3.trans ?_
      rw [hf₂, State.calling_eq h.top, State.setFrames_setFrames, State.setTop_of_frames _ hr', hr]
      rfl
    have hsame : U.sameButNew ({ U with heap := s₂.heap, slotsUsed := s₂.slotsUsed } : State) L mc ms := by
      refine ⟨?_, q2, q3, q4, q5, q6⟩
      obtain ⟨t, ht, -⟩ := State.frames_cons hr
      show ({ U with heap := s₂.heap, slotsUsed := s₂.slotsUsed } : State) = { U.setFrames U.frames with heap := s₂.heap, slotsUsed := s₂.slotsUsed }
      rw [State.setFrames_self ht]
    subst hg
    refine Or.inl ⟨v, ⟨(({ U with heap := s₂.heap, slotsUsed := s₂.slotsUsed } : State).setVm s₂.vm), Ls ++ L, c0 + mc, s0 + ms⟩,
      ⟨X.admits, X.cas, X.clock, X.frames, X.room, X.hears, X.method, X.code, (X.here.setHeapUsed s₂.heap s₂.slotsUsed).setVm hW'.alike, X.tail, State.WarmedH.trans X.warmed hW', X.limits, X.bytes, X.same.trans (hsame.setVm s.vm)⟩,
      ⟨g, mk, s₂, L, rfl, rfl, hqc, rfl, hL, rfl, rfl⟩, ?_⟩
    show Steps p.tables e below _ ((({ U with heap := s₂.heap, slotsUsed := s₂.slotsUsed } : State).setVm s₂.vm).setTop { g with pc := g.pc + len₂, stack := v.toList ++ g.stack })
    rw [← hs₂]
    exact hsteps
  · obtain ⟨e2, q2, q3, q4, q5, q6⟩ := id hsm
    have e3 : s₂ = ({ (U.calling g mk a).setFrames s₂.frames with heap := s₂.heap, slotsUsed := s₂.slotsUsed } : State).setVm s₂.vm := by
      have : s₂ = ({ s₂ with vm := (U.calling g mk a).vm } : State).setVm s₂.vm := rfl
      rw [e2] at this
      exact this
    have hf₂ : s₂.frames = .throwing q :: .java g :: U.frames.tail := hend
    have hW' : U.WarmedH s₂.vm := hW₂
    have hs₂ : s₂ = ((({ U with heap := s₂.heap, slotsUsed := s₂.slotsUsed } : State).setVm s₂.vm).setTop g).pushFrame (.throwing q) := by
      refine e3.trans ?_
      rw [hf₂, State.calling_eq h.top, State.setFrames_setFrames, State.pushFrame, State.frames_setTop _ hr', State.setTop_of_frames _ hr', State.setFrames_setFrames, hr]
      rfl
    have hsame : U.sameButNew ({ U with heap := s₂.heap, slotsUsed := s₂.slotsUsed } : State) L mc ms := by
      refine ⟨?_, q2, q3, q4, q5, q6⟩
      obtain ⟨t, ht, -⟩ := State.frames_cons hr
      show ({ U with heap := s₂.heap, slotsUsed := s₂.slotsUsed } : State) = { U.setFrames U.frames with heap := s₂.heap, slotsUsed := s₂.slotsUsed }
      rw [State.setFrames_self ht]
    subst hg
    refine Or.inr ⟨q, ⟨(({ U with heap := s₂.heap, slotsUsed := s₂.slotsUsed } : State).setVm s₂.vm), Ls ++ L, c0 + mc, s0 + ms⟩,
      ⟨X.admits, X.cas, X.clock, X.frames, X.room, X.hears, X.method, X.code, (X.here.setHeapUsed s₂.heap s₂.slotsUsed).setVm hW'.alike, X.tail, State.WarmedH.trans X.warmed hW', X.limits, X.bytes, X.same.trans (hsame.setVm s.vm)⟩,
      ⟨g, mk, s₂, L, E, ce, rfl, rfl, hx, hce, hcv, hcl, rfl, hL, rfl, rfl⟩, ?_⟩
    show Steps p.tables e below _ (((({ U with heap := s₂.heap, slotsUsed := s₂.slotsUsed } : State).setVm s₂.vm).setTop g).pushFrame (.throwing q))
    rw [← hs₂]
    exact hsteps
end
variable {p : Program} {l : Launch} {e : Env} {R : Room} {s : State} {m : MethodId} {args : Array Value} {below : List Frame} {meth : Method} {c : Code} {T : State} {H : Heap} {locs : List Loc} {cells slots : Nat}
theorem vx_callVX (X : Stand p l e R s m args below meth c T locs cells slots) (hexec : p.tables.exec = Jvm.exec) {own C : String} {index : Nat} {y : MethodName} {bytes : ByteArray} {maxL : Nat} {ret : Option FieldType} {hh : List (Nat × Nat × Nat × Nat)}
    (hown : s.vm.findClass own = some m.cls) (hlink : (Cond.methodLink own index y).before args s = true) (hinst : (Cond.instanceMethod y).before args s = true) (hsel : (Cond.selects C y y).before args s = true)
    (hcode : (Cond.codeWith y bytes maxL ret hh).before args s = true) (hy : y.cls ≠ "java/lang/invoke/MethodHandle" ∧ y.cls ≠ "java/lang/invoke/VarHandle")
    {W9 : Nat} {Pre : Pt → Array Value → Prop} {Post : Pt → Array Value → Option Value → Pt → Prop} {PostX : Pt → Array Value → Addr → Pt → Prop} (hK : vx_Back l R p e below s args y 3 W9 Pre Post PostX)
    {b : Addr} {cellB : Cell} (hcell : T.heap[b]? = some cellB) (hobj : cellB.vm.isStatics = false) (hcls : s.vm.findClass C = some cellB.cls)
    {g : JFrame} (hg : g.method = m) (hsize : g.locals.size = c.maxLocals) {argsL rest : List Value} (hlen : ∀ sig, parseMethodDescriptor y.desc = some sig → argsL.length = sig.parameters.length)
    (hstack : g.stack = argsL.reverse ++ .ref b :: rest) (hW : 2 * g.monitorRoom + (rest.map fun v => v.category).sum ≤ W9) (hdg : decode c.code g.pc = .ok (.invokevirtual index, 3))
    (hpre : ∀ vm₁, s.WarmedH vm₁ → Pre ⟨T.setVm vm₁, locs, cells, slots⟩ (Value.ref b :: argsL).toArray) :
    (∃ (v : Option Value) (vm₁ : Vm) (B : Pt), s.WarmedH vm₁ ∧ Stand p l e R s m args below meth c B.U B.locs B.cells B.slots ∧ Post ⟨T.setVm vm₁, locs, cells, slots⟩ (Value.ref b :: argsL).toArray v B ∧
      ∀ target, Steps p.tables e below (B.U.setTop { g with pc := g.pc + 3, stack := v.toList ++ rest }) target → Steps p.tables e below (T.setTop g) target) ∨
    (∃ (q : Addr) (vm₁ : Vm) (B : Pt), s.WarmedH vm₁ ∧ Stand p l e R s m args below meth c B.U B.locs B.cells B.slots ∧ PostX ⟨T.setVm vm₁, locs, cells, slots⟩ (Value.ref b :: argsL).toArray q B ∧
      Steps p.tables e below (T.setTop g) ((B.U.setTop { g with stack := rest }).pushFrame (.throwing q))) := by
  obtain ⟨mk, methM, hnamed, hmethM, hstM, habM⟩ := Cond.instanceMethod_spec hinst
  obtain ⟨m8, methM', cM, hn8, hmethM', -, -, -, -, -, -, hsigM⟩ := Cond.codeWith_spec hcode
  cases Option.some.inj (hn8.symm.trans hnamed)
  cases hmethM.symm.trans hmethM'
  obtain ⟨c2, r2, m2, q1, q2, q3, q4, kP, hkP, hkPi⟩ := Cond.selects_spec hsel
  cases hcls.symm.trans q1
  cases (State.methodFound?_of_named hnamed hy).symm.trans q2
  cases hnamed.symm.trans q3
  have hselP : selectMethod e.platform s.vm cellB.cls mk = .method mk := by rw [Launch.admits_selectMethod X.admits]; exact q4
  obtain ⟨vm₁, X₁, hstep₁⟩ := X.invokevirtual hexec hown hlink hnamed hmethM hstM hkP hkPi hy (a := b) (cell := cellB) hcell
    (fun z h => by rw [h] at hobj; cases hobj) hselP hmethM habM hkP hkPi (g := g) hg (argsL := argsL) (rest := rest) (hlen _ hsigM) hstack hdg
  rcases hK m meth c ⟨T.setVm vm₁, locs, cells, slots⟩ { g with stack := rest } (.invokevirtual index) mk (Value.ref b :: argsL).toArray X₁ hg hsize hdg hW (X₁.named hnamed) (hpre vm₁ X₁.warmed) with ⟨v, B, X', hpost, hsteps⟩ | ⟨q, B, X', hpost, hsteps⟩
  · exact Or.inl ⟨v, vm₁, B, X₁.warmed, X', hpost, fun target h => hstep₁ _ fun acts => by rw [doInvoke_state]; exact hsteps.trans h⟩
  · exact Or.inr ⟨q, vm₁, B, X₁.warmed, X', hpost, hstep₁ _ fun acts => by rw [doInvoke_state]; exact hsteps⟩
theorem vx_callSX (X : Stand p l e R s m args below meth c T locs cells slots) (hexec : p.tables.exec = Jvm.exec) {own : String} {index : Nat} {y : MethodName} {bytes : ByteArray} {maxL : Nat} {ret : Option FieldType} {hh : List (Nat × Nat × Nat × Nat)}
    (hown : s.vm.findClass own = some m.cls) (hlink : (Cond.methodLink own index y).before args s = true) (hstat : (Cond.static y).before args s = true) (hinit : (Cond.initialized y.cls).before args s = true)
    (hcode : (Cond.codeWith y bytes maxL ret hh).before args s = true) (hy : y.cls ≠ "java/lang/invoke/MethodHandle" ∧ y.cls ≠ "java/lang/invoke/VarHandle")
    {W9 : Nat} {Pre : Pt → Array Value → Prop} {Post : Pt → Array Value → Option Value → Pt → Prop} {PostX : Pt → Array Value → Addr → Pt → Prop} (hK : vx_Back l R p e below s args y 3 W9 Pre Post PostX)
    {g : JFrame} (hg : g.method = m) (hsize : g.locals.size = c.maxLocals) {argsL rest : List Value} (hlen : ∀ sig, parseMethodDescriptor y.desc = some sig → argsL.length = sig.parameters.length)
    (hstack : g.stack = argsL.reverse ++ rest) (hW : 2 * g.monitorRoom + (rest.map fun v => v.category).sum ≤ W9) (hdg : decode c.code g.pc = .ok (.invokestatic index, 3))
    (hpre : ∀ vm₁, s.WarmedH vm₁ → Pre ⟨T.setVm vm₁, locs, cells, slots⟩ argsL.toArray) :
    (∃ (v : Option Value) (vm₁ : Vm) (B : Pt), s.WarmedH vm₁ ∧ Stand p l e R s m args below meth c B.U B.locs B.cells B.slots ∧ Post ⟨T.setVm vm₁, locs, cells, slots⟩ argsL.toArray v B ∧
      ∀ target, Steps p.tables e below (B.U.setTop { g with pc := g.pc + 3, stack := v.toList ++ rest }) target → Steps p.tables e below (T.setTop g) target) ∨
    (∃ (q : Addr) (vm₁ : Vm) (B : Pt), s.WarmedH vm₁ ∧ Stand p l e R s m args below meth c B.U B.locs B.cells B.slots ∧ PostX ⟨T.setVm vm₁, locs, cells, slots⟩ argsL.toArray q B ∧
      Steps p.tables e below (T.setTop g) ((B.U.setTop { g with stack := rest }).pushFrame (.throwing q))) := by
  obtain ⟨mk, methM, cM, hnamed, hmethM, -, -, -, -, -, -, hsigM⟩ := Cond.codeWith_spec hcode
  have hstatic : methM.isStatic = true := Cond.static_spec hnamed hmethM hstat
  obtain ⟨kP, hkP, -⟩ := className_of_methodNamed hnamed
  have hinitP : kP.init = .initialized := Cond.initialized_spec (findClass_of_methodNamed hnamed) hkP hinit
  obtain ⟨vm₁, X₁, hstep₁⟩ := X.invokestatic hexec hown hlink hnamed hmethM hstatic hkP hinitP hy (g := g) hg (argsL := argsL) (rest := rest) (hlen _ hsigM) hstack hdg
  rcases hK m meth c ⟨T.setVm vm₁, locs, cells, slots⟩ { g with stack := rest } (.invokestatic index) mk argsL.toArray X₁ hg hsize hdg hW (X₁.named hnamed) (hpre vm₁ X₁.warmed) with ⟨v, B, X', hpost, hsteps⟩ | ⟨q, B, X', hpost, hsteps⟩
  · exact Or.inl ⟨v, vm₁, B, X₁.warmed, X', hpost, fun target h => hstep₁ _ fun acts => by rw [doInvoke_state]; exact hsteps.trans h⟩
  · exact Or.inr ⟨q, vm₁, B, X₁.warmed, X', hpost, hstep₁ _ fun acts => by rw [doInvoke_state]; exact hsteps⟩
theorem vx_callVW (X : Stand p l e R s m args below meth c T locs cells slots) (hexec : p.tables.exec = Jvm.exec) {own C : String} {index : Nat} {y : MethodName} {bytes : ByteArray} {maxL : Nat} {ret : Option FieldType} {hh : List (Nat × Nat × Nat × Nat)}
    (hown : s.vm.findClass own = some m.cls) (hlink : (Cond.methodLink own index y).before args s = true) (hinst : (Cond.instanceMethod y).before args s = true) (hsel : (Cond.selects C y y).before args s = true)
    (hcode : (Cond.codeWith y bytes maxL ret hh).before args s = true) (hy : y.cls ≠ "java/lang/invoke/MethodHandle" ∧ y.cls ≠ "java/lang/invoke/VarHandle")
    {W9 : Nat} {Pre : Pt → Array Value → Prop} {Post : Pt → Array Value → Option Value → Pt → Prop} (hK : Back l R p e below s args y 3 W9 Pre Post)
    {b : Addr} {cellB : Cell} (hcell : T.heap[b]? = some cellB) (hobj : cellB.vm.isStatics = false) (hcls : s.vm.findClass C = some cellB.cls)
    {g : JFrame} (hg : g.method = m) (hsize : g.locals.size = c.maxLocals) {argsL rest : List Value} (hlen : ∀ sig, parseMethodDescriptor y.desc = some sig → argsL.length = sig.parameters.length)
    (hstack : g.stack = argsL.reverse ++ .ref b :: rest) (hW : 2 * g.monitorRoom + (rest.map fun v => v.category).sum ≤ W9) (hdg : decode c.code g.pc = .ok (.invokevirtual index, 3))
    (hpre : ∀ vm₁, s.WarmedH vm₁ → Pre ⟨T.setVm vm₁, locs, cells, slots⟩ (Value.ref b :: argsL).toArray) :
    ∃ (v : Option Value) (vm₁ : Vm) (B : Pt), s.WarmedH vm₁ ∧ Stand p l e R s m args below meth c B.U B.locs B.cells B.slots ∧ Post ⟨T.setVm vm₁, locs, cells, slots⟩ (Value.ref b :: argsL).toArray v B ∧
      ∀ target, Steps p.tables e below (B.U.setTop { g with pc := g.pc + 3, stack := v.toList ++ rest }) target → Steps p.tables e below (T.setTop g) target := by
  obtain ⟨mk, methM, hnamed, hmethM, hstM, habM⟩ := Cond.instanceMethod_spec hinst
  obtain ⟨m8, methM', cM, hn8, hmethM', -, -, -, -, -, -, hsigM⟩ := Cond.codeWith_spec hcode
  cases Option.some.inj (hn8.symm.trans hnamed)
  cases hmethM.symm.trans hmethM'
  obtain ⟨c2, r2, m2, q1, q2, q3, q4, kP, hkP, hkPi⟩ := Cond.selects_spec hsel
  cases hcls.symm.trans q1
  cases (State.methodFound?_of_named hnamed hy).symm.trans q2
  cases hnamed.symm.trans q3
  have hselP : selectMethod e.platform s.vm cellB.cls mk = .method mk := by rw [Launch.admits_selectMethod X.admits]; exact q4
  obtain ⟨vm₁, X₁, hstep₁⟩ := X.invokevirtual hexec hown hlink hnamed hmethM hstM hkP hkPi hy (a := b) (cell := cellB) hcell
    (fun z h => by rw [h] at hobj; cases hobj) hselP hmethM habM hkP hkPi (g := g) hg (argsL := argsL) (rest := rest) (hlen _ hsigM) hstack hdg
  obtain ⟨v, B, X', hpost, hsteps⟩ := hK m meth c ⟨T.setVm vm₁, locs, cells, slots⟩ { g with stack := rest } (.invokevirtual index) mk (Value.ref b :: argsL).toArray X₁ hg hsize hdg hW (X₁.named hnamed) (hpre vm₁ X₁.warmed)
  exact ⟨v, vm₁, B, X₁.warmed, X', hpost, fun target h => hstep₁ _ fun acts => by rw [doInvoke_state]; exact hsteps.trans h⟩
abbrev vx_CVW (R : Room) (s : State) (args : Array Value) (own C : String) (index : Nat) (y : MethodName) (bytes : ByteArray) (maxL : Nat) (ret : Option FieldType) (hh : List (Nat × Nat × Nat × Nat)) (ws : List Cond) (rm : Room) (mc ms n : Nat) : Prop :=
  (rm.cells = mc ∧ rm.slots = ms ∧ rm.frames + 1 ≤ R.frames ∧ 8 + (maxL + 11) + rm.locals ≤ R.locals ∧ (∀ w ∈ ws, ∀ (a' : Array Value) (U : State), s.WarmedH U.vm → w.before a' U = true) ∧ Cond.codeWith y bytes maxL ret hh ∈ ws) ∧
  (Cond.codeWith y bytes maxL ret hh).before args s = true ∧ (Cond.initialized y.cls).before args s = true ∧ (y.cls ≠ "java/lang/invoke/MethodHandle" ∧ y.cls ≠ "java/lang/invoke/VarHandle") ∧
  (∀ sig, parseMethodDescriptor y.desc = some sig → n = sig.parameters.length) ∧ (Cond.methodLink own index y).before args s = true ∧ (Cond.instanceMethod y).before args s = true ∧ (Cond.selects C y y).before args s = true
theorem vx_cwVW {own C : String} {index maxL mc ms : Nat} {y : MethodName} {bytes : ByteArray} {ret : Option FieldType} {hh : List (Nat × Nat × Nat × Nat)} {Ts ws ws' : List Cond} {rm : Room} (n : Nat) (ht : ∀ w ∈ Ts, w.before args s = true) (hT : GoodIn Ts (wsV own index C y ws)) (hw : ws = Cond.codeWith y bytes maxL ret hh :: ws') (hrc : rm.cells = mc) (hrs : rm.slots = ms)
    (hd : y.cls = C ∧ y.cls ≠ "java/lang/invoke/MethodHandle" ∧ y.cls ≠ "java/lang/invoke/VarHandle" ∧ (parseMethodDescriptor y.desc).map (fun d => d.parameters.length) = some n) (hR : rm.frames + 1 ≤ R.frames ∧ 8 + (maxL + 11) + rm.locals ≤ R.locals) :
    vx_CVW R s args own C index y bytes maxL ret hh ws rm mc ms n := by
  obtain ⟨hC, hd⟩ := hd
  subst hC
  have ok : ∀ w ∈ wsV own index y.cls y ws, w.before args s = true := fun w h => ht w (hT w h).1
  have hG : GoodIn Ts ws := fun w h => hT w (by unfold wsV; exact List.mem_append_right _ h)
  have hc : Cond.codeWith y bytes maxL ret hh ∈ ws := by rw [hw]; exact List.mem_cons_self
  refine ⟨⟨hrc, hrs, hR.1, hR.2, pay_in ht hG, hc⟩, ht _ (hG _ hc).1, ok _ (by simp [wsV]), ⟨hd.1, hd.2.1⟩, fun sig h => ?_, ok _ (by simp [wsV]), ok _ (by simp [wsV]), ok _ (by simp [wsV])⟩
  have h2 := hd.2.2
  rw [h] at h2
  exact (Option.some.inj h2).symm
theorem vx_runVW {y : MethodName} {bytes cc : ByteArray} {maxL nL mc ms n index : Nat} {ret : Option FieldType} {hh : List (Nat × Nat × Nat × Nat)} {ws : List Cond} {rm : Room} {Pc : Array Value → State → Prop} {Qc : Array Value → State → Outcome → State → Prop} {free : Addr → Prop} {Ts : List Cond} {own C : String} {b : Addr} {As rest : List Value} {g : JFrame}
    (S : CallFix p m c cc nL s args Ts own) (hM : Met l y ws rm Pc Qc mc ms free) (cw : vx_CVW R s args own C index y bytes maxL ret hh ws rm mc ms n) (hp : PreV s H C b Pc As)
    (hg : g.method = m) (hn : As.length = n) (hsize : g.locals.size = nL) (hstack : g.stack = As.reverse ++ .ref b :: rest) (hW : 2 * g.monitorRoom + (rest.map fun v => v.category).sum ≤ 8) (hdg : decode cc g.pc = .ok (.invokevirtual index, 3)) (hf : cells + mc ≤ R.cells ∧ slots + ms ≤ R.slots) :
    va_Run p l e R s m args below meth c H locs cells slots mc ms g rest (Qc (Value.ref b :: As).toArray) free := by
  obtain ⟨⟨hrc, hrs, hfr, hlo, hws, hcw⟩, hcode, hini, hy, hlen, hl, hin, hse⟩ := cw
  have hK : Back l R p e below s args y 3 8 (PreOf R mc ms Pc) (PostOf Qc mc ms free) := va_backW (hh := hh) (bytes := bytes) (maxL := maxL) (ret := ret) hM hp.1 hrc hrs hfr hlo hws hcw (fun a' U hW => word_at hW (Or.inl (by first | rfl | simp [Cond.onTables, Cond.keeps, Cond.steady])) hini)
  obtain ⟨hx, hb, hml, ho, -⟩ := S
  obtain ⟨-, ⟨cellB, hcB, hoB, hclB⟩, hPc⟩ := hp
  intro T hT X
  obtain ⟨v, vm₁, ⟨U', l2, c2, s2⟩, hW₁, X', ⟨g', mk, t, L, e1, e2, hq, h1, hL, h2, h3⟩, st⟩ := vx_callVW X hx (C := C) (hh := hh) (bytes := bytes) (maxL := maxL) (ret := ret) ho hl hin hse hcode hy hK (by rw [hT]; exact hcB) hoB hclB hg (hsize.trans hml.symm) (argsL := As) (rest := rest) (fun sig h => hn.trans (hlen sig h)) hstack hW (by rw [hb]; exact hdg)
    (fun vm₁ hW₁ => ⟨hf.1, hf.2, hPc (T.setVm vm₁) hT hW₁⟩)
  dsimp only [Pt.U, Pt.locs, Pt.cells, Pt.slots] at X' e1 e2 h1 h2 h3 st
  subst h1; subst h2; subst h3
  exact ⟨v, (T.setVm vm₁).calling g' mk (Value.ref b :: As).toArray, t, U', L, hT, X', hL, e1, e2, hq, st⟩
section
variable {y : MethodName} {bytes cc : ByteArray} {maxL nL mc ms n index : Nat} {ret : Option FieldType} {ws : List Cond} {rm : Room} {Pc : Array Value → State → Prop} {Qc : Array Value → State → Outcome → State → Prop} {XC : String → State → State → Prop} {free : Addr → Prop} {Ts : List Cond} {own C : String} {b : Addr} {As rest : List Value} {g : JFrame}
theorem vx_runVX {hh : List (Nat × Nat × Nat × Nat)} (S : CallFix p m c cc nL s args Ts own) (hM : vx_Met l y ws rm Pc Qc XC mc ms free) (cw : vx_CVW R s args own C index y bytes maxL ret hh ws rm mc ms n) (hp : PreV s H C b Pc As)
    (hg : g.method = m) (hn : As.length = n) (hsize : g.locals.size = nL) (hstack : g.stack = As.reverse ++ .ref b :: rest) (hW : 2 * g.monitorRoom + (rest.map fun v => v.category).sum ≤ 8) (hdg : decode cc g.pc = .ok (.invokevirtual index, 3)) (hf : cells + mc ≤ R.cells ∧ slots + ms ≤ R.slots) :
    vx_Run p l e R s m args below meth c H locs cells slots mc ms g rest (Qc (Value.ref b :: As).toArray) XC free := by
  obtain ⟨⟨hrc, hrs, hfr, hlo, hws, hcw⟩, hcode, hini, hy, hlen, hl, hin, hse⟩ := cw
  have hK : vx_Back l R p e below s args y 3 8 (PreOf R mc ms Pc) (PostOf Qc mc ms free) (vx_Post XC mc ms free) := vx_backW (hh := hh) (bytes := bytes) (maxL := maxL) (ret := ret) hM hp.1 hrc hrs hfr hlo hws hcw (fun a' U hW => word_at hW (Or.inl (by first | rfl | simp [Cond.onTables, Cond.keeps, Cond.steady])) hini)
  obtain ⟨hx, hb, hml, ho, -⟩ := S
  obtain ⟨-, ⟨cellB, hcB, hoB, hclB⟩, hPc⟩ := hp
  intro T hT X
  rcases vx_callVX X hx (C := C) (hh := hh) (bytes := bytes) (maxL := maxL) (ret := ret) ho hl hin hse hcode hy hK (by rw [hT]; exact hcB) hoB hclB hg (hsize.trans hml.symm) (argsL := As) (rest := rest) (fun sig h => hn.trans (hlen sig h)) hstack hW (by rw [hb]; exact hdg)
    (fun vm₁ hW₁ => ⟨hf.1, hf.2, hPc (T.setVm vm₁) hT hW₁⟩) with ⟨v, vm₁, ⟨U', l2, c2, s2⟩, hW₁, X', ⟨g', mk, t, L, e1, e2, hq, h1, hL, h2, h3⟩, st⟩ | ⟨q, vm₁, ⟨U', l2, c2, s2⟩, hW₁, X', ⟨g', mk, t, L, E, ce, e1, e2, hq, hce, hcv, hcl, h1, hL, h2, h3⟩, st⟩
  · dsimp only [Pt.U, Pt.locs, Pt.cells, Pt.slots] at X' e1 e2 h1 h2 h3 st
    subst h1; subst h2; subst h3
    exact Or.inl ⟨v, (T.setVm vm₁).calling g' mk (Value.ref b :: As).toArray, t, U', L, hT, X', hL, e1, e2, hq, st⟩
  · dsimp only [Pt.U, Pt.locs, Pt.cells, Pt.slots] at X' e1 e2 h1 h2 h3 st hcl
    subst h1; subst h2; subst h3
    exact Or.inr ⟨q, (T.setVm vm₁).calling g' mk (Value.ref b :: As).toArray, t, U', L, E, ce, hT, X', hL, e1, e2, hq, hce, hcv, vx_cls hW₁ hcl, st⟩
theorem vx_runSX {hh : List (Nat × Nat × Nat × Nat)} (S : CallFix p m c cc nL s args Ts own) (hM : vx_Met l y ws rm Pc Qc XC mc ms free) (cw : vx_CSW R s args own index y bytes maxL ret hh ws rm mc ms n) (hp : PreS s H Pc As)
    (hg : g.method = m) (hn : As.length = n) (hsize : g.locals.size = nL) (hstack : g.stack = As.reverse ++ rest) (hW : 2 * g.monitorRoom + (rest.map fun v => v.category).sum ≤ 8) (hdg : decode cc g.pc = .ok (.invokestatic index, 3)) (hf : cells + mc ≤ R.cells ∧ slots + ms ≤ R.slots) :
    vx_Run p l e R s m args below meth c H locs cells slots mc ms g rest (Qc As.toArray) XC free := by
  obtain ⟨⟨hrc, hrs, hfr, hlo, hws, hcw⟩, hcode, hini, hy, hlen, hl, hstt⟩ := cw
  have hK : vx_Back l R p e below s args y 3 8 (PreOf R mc ms Pc) (PostOf Qc mc ms free) (vx_Post XC mc ms free) := vx_backW (hh := hh) (bytes := bytes) (maxL := maxL) (ret := ret) hM hp.1 hrc hrs hfr hlo hws hcw (fun a' U hW => word_at hW (Or.inl (by first | rfl | simp [Cond.onTables, Cond.keeps, Cond.steady])) hini)
  obtain ⟨hx, hb, hml, ho, -⟩ := S
  intro T hT X
  rcases vx_callSX X hx (hh := hh) (bytes := bytes) (maxL := maxL) (ret := ret) ho hl hstt hini hcode hy hK hg (hsize.trans hml.symm) (argsL := As) (rest := rest) (fun sig h => hn.trans (hlen sig h)) hstack hW (by rw [hb]; exact hdg)
    (fun vm₁ hW₁ => ⟨hf.1, hf.2, hp.2 (T.setVm vm₁) hT hW₁⟩) with ⟨v, vm₁, ⟨U', l2, c2, s2⟩, hW₁, X', ⟨g', mk, t, L, e1, e2, hq, h1, hL, h2, h3⟩, st⟩ | ⟨q, vm₁, ⟨U', l2, c2, s2⟩, hW₁, X', ⟨g', mk, t, L, E, ce, e1, e2, hq, hce, hcv, hcl, h1, hL, h2, h3⟩, st⟩
  · dsimp only [Pt.U, Pt.locs, Pt.cells, Pt.slots] at X' e1 e2 h1 h2 h3 st
    subst h1; subst h2; subst h3
    exact Or.inl ⟨v, (T.setVm vm₁).calling g' mk As.toArray, t, U', L, hT, X', hL, e1, e2, hq, st⟩
  · dsimp only [Pt.U, Pt.locs, Pt.cells, Pt.slots] at X' e1 e2 h1 h2 h3 st hcl
    subst h1; subst h2; subst h3
    exact Or.inr ⟨q, (T.setVm vm₁).calling g' mk As.toArray, t, U', L, E, ce, hT, X', hL, e1, e2, hq, hce, hcv, vx_cls hW₁ hcl, st⟩
end
end VXH
theorem vx_ofWH {l : Launch} {y : MethodName} {ws ws' : List Cond} {rm : Room} {Pc : Array Value → State → Prop} {Qc : Array Value → State → Outcome → State → Prop} {XC : String → State → State → Prop} {mc ms : Nat} {free : Addr → Prop} {cc : ByteArray} {maxL : Nat} {ret : Option FieldType} {hh : List (Nat × Nat × Nat × Nat)}
    (hy : plainName y.cls = true) (hw : ws = Cond.codeWith y cc maxL ret hh :: ws')
    (body : ∀ p e s m args below meth c s₁, BodyLoose p l y (headSpec ws rm) cc maxL ret e s m args below meth c s₁ → c.maxLocals = maxL → Pc args s →
      W p l e (headSpec ws rm).room s m args below meth c s.heap [] 0 0 (vx_MQ below Qc XC args s mc ms free) (entryFrame m args maxL)) : vx_Met l y ws rm Pc Qc XC mc ms free := by
  refine MetFree.of_bodyS (code := cc) (maxLocals := maxL) (ret := ret) hy ?_ ?_
  · intro args s m h hn
    obtain ⟨m9, meth, c, hn9, h1, h2, h3, h4, -, h5, h6, -⟩ := Cond.codeWith_spec (atoms_spec (ws := ws) h _ (by rw [hw]; exact List.mem_cons_self))
    cases hn.symm.trans hn9
    exact ⟨meth, c, h1, h2, h3, h4, h5, h6⟩
  · intro p e s m args below meth c s₁ B hml hP _
    have hh0 : s₁.heap = s.heap := by rw [B.state]; rfl
    obtain ⟨t, a1, o, b1, b2, b3⟩ := body p e s m args below meth c s₁ B hml hP s₁ hh0 (Stand.of_body B)
    exact ⟨t, o, a1, b1, b2, b3⟩
/-! ===== END ===== -/

/-! ===== BEGIN what the machine throws by itself, no traces kept ===== -/
section VXM
set_option maxHeartbeats 1000000 in
/-- the machine throws cls with the message text, no traces kept: from its note over the frame g to 'throwing' over the same frame (follows the proofs of Stand.vmThrowsMessage, Shelf/KitTracedVmS.lean, and Stand.throwsMessageColdBareV, StandMessageColdV.lean, without the step out of the frame) -/
theorem vx_vmAt {p : Program} {l : Launch} {e : Env} {R : Room} {s : State} {m₀ : MethodId} {args : Array Value} {below : List Frame} {meth : Method} {c : Code} {W : State} {locs : List Loc} {cells slots : Nat}
    (X : Stand p l e R s m₀ args below meth c W locs cells slots) (hexec : p.tables.exec = Jvm.exec) (htr : e.platform.stackTraces = false) {cls : String} {names : List String} {text : String}
    (hcls : Bundle.fit cls = true) (hnames : ∀ n ∈ names, Bundle.fit n = true) (hsoe : (cls == "java/lang/StackOverflowError") = false) (hoom : (cls == "java/lang/OutOfMemoryError") = false)
    (h : ∀ a ∈ Bundle.messageArmAtoms cls names, a.before args s = true)
    (hlocs : ∀ x ∈ locs, ∀ cell, s.heap[x.base]? = some cell → cell.vm.isStatics = false)
    (htext : (text == notModelled) = false) (hlimit : ¬ (stringBytes (stringToUtf16 text)).size > e.platform.arrayLengthLimit) (hheap : ¬ (stringBytes (stringToUtf16 text)).size * componentBytes .byte > e.platform.maxHeapBytes)
    {g : JFrame} (hg : g.method = m₀) (hsize : g.locals.size = c.maxLocals)
    (hRframes : names.length + 4 < R.frames) (hRlocals : 2 * g.monitorRoom + (g.stack.map fun v => v.category).sum + 10240 ≤ R.locals) (hshort : 13 * names.length + 55 ≤ 10240)
    (hRcells : cells + 3 ≤ R.cells) (hRslots : slots + ((stringBytes (stringToUtf16 text)).size + 4 + 6) ≤ R.slots) (hlocks : meth.locks = false) :
    ∃ (S : State) (q : Addr) (ce : Cell), (∀ target, Steps p.tables e below ((S.setTop g).pushFrame (.throwing q)) target → Steps p.tables e below ((W.setTop g).pushFrame (.throwNew cls (some text) none)) target) ∧
      Stand p l e R s m₀ args below meth c S locs (cells + 3) (slots + ((stringBytes (stringToUtf16 text)).size + 4 + 6)) ∧ S.heap[q]? = some ce ∧ s.vm.findClass cls = some ce.cls ∧ ce.vm = .none := by
  have howns : e.platform.frameOwnsMonitors = true := by rw [X.admits.platform]
  have hfin : e.platform.finalization = false := by rw [X.admits.platform]
  have hpl : e.platform.magicAccessors = ({} : Platform).magicAccessors := by rw [X.admits.platform]
  have a : ∀ x, x ∈ Bundle.messageArmAtoms cls names → x.holds args s none s [] = true := fun x hx => h x hx
  obtain ⟨T, Z0, L, -, Y⟩ := ThrowableC.of_atoms (args := args) howns hfin hpl (fun x hx => h x (by simp [Bundle.messageArmAtoms, hx]))
  obtain ⟨Z, M, LZ, LM, hnZ⟩ := Init0T.ofS_atoms (args := args) hpl L Y (fun x hx => h x (by simp [Bundle.messageArmAtoms, hx]))
  obtain ⟨P1, Ps, hlen, L1, hL, hP1m, hlink1, hlink⟩ := Bundle.chainS (args := args) hpl hnZ names cls hcls hnames (fun x hx => h x (by simp [Bundle.messageArmAtoms, hx]))
  obtain ⟨Zs, LZs, hn4, hfitv, hfitc⟩ := StringT.of_atoms (args := args) (fun x hx => h x (by simp [Bundle.messageArmAtoms, hx]))
  have hfound : s.vm.findClass cls = some P1.m.cls := findClass_of_methodNamed hP1m
  obtain ⟨c1, kX, hc1, hk, hord, -, -, hn6⟩ := Cond.instantiable_spec (a (.instantiable cls 6) (by simp [Bundle.messageArmAtoms]))
  cases Option.some.inj (hc1.symm.trans hfound)
  have hinit := Cond.initialized_spec hfound hk (a (.initialized cls) (by simp [Bundle.messageArmAtoms]))
  have hctor : kX.findMethod "<init>" "(Ljava/lang/String;)V" = some P1.m.idx := findMethod_of_methodNamed hP1m hk
  have hsel0 : selectMethod e.platform s.vm P1.m.cls T.fill0 = .method T.fill0 := by
    obtain ⟨c2, r2, m2, q1, q2, q3, q4, -⟩ := Cond.selects_spec (a (.selects cls Bundle.tFill0 Bundle.tFill0) (by simp [Bundle.messageArmAtoms]))
    cases Option.some.inj (q1.symm.trans hfound)
    cases Option.some.inj (q2.symm.trans (State.methodFound?_of_named Y.fill0 (by decide)))
    cases Option.some.inj (q3.symm.trans Y.fill0)
    rw [Launch.admits_selectMethod X.admits]; exact q4
  have hselF : selectMethod e.platform s.vm P1.m.cls T.fill = .method T.fill := by
    obtain ⟨c2, r2, m2, q1, q2, q3, q4, -⟩ := Cond.selects_spec (a (.selects cls Bundle.tFill Bundle.tFill) (by simp [Bundle.messageArmAtoms]))
    cases Option.some.inj (q1.symm.trans hfound)
    cases Option.some.inj (q2.symm.trans (State.methodFound?_of_named Y.fill (by decide)))
    cases Option.some.inj (q3.symm.trans Y.fill)
    rw [Launch.admits_selectMethod X.admits]; exact q4
  obtain ⟨cellS0, hcS0, hiss⟩ := Y.statics
  obtain ⟨u0, hu0⟩ := Cond.staticRefV Y.unassigned L.unassignedStatic L.statics hcS0 hiss (a (.isRef (.static Bundle.tN "UNASSIGNED_STACK" Bundle.steD)) (by simp [Bundle.messageArmAtoms]))
  obtain ⟨sen, hsen⟩ := Cond.staticRefV Y.sentinel L.sentinelStatic L.statics hcS0 hiss (a (.isRef (.static Bundle.tN "SUPPRESSED_SENTINEL" Bundle.listD)) (by simp [Bundle.messageArmAtoms]))
  obtain ⟨ci198, i198, fB, hk198, hg198, ha198, hsB, -, hnB, htB, hffB⟩ := Cond.ownField (t := .object "java/lang/Object") Y.found L.cls (by decide +kernel) (a (.fieldLink Bundle.tN 198 Bundle.tN "backtrace" "Ljava/lang/Object;") (by simp [Bundle.messageArmAtoms])) (a (.lays Bundle.tN Bundle.tN "backtrace" "Ljava/lang/Object;") (by simp [Bundle.messageArmAtoms])) e.platform hpl
  obtain ⟨cellS, hcS', heS, -, hkeep⟩ := X.same.2.2.2.2.2 T.aS cellS0 hcS0
  have hcellS : W.heap[T.aS]? = some cellS := hcS'
  have hout' : ∀ i, (⟨T.aS, i⟩ : Loc) ∉ locs := fun i hmem => by
    have := hlocs _ hmem cellS0 hcS0
    rw [hiss] at this; cases this
  have hknownS : cellS.vm ≠ .unknown := by
    rw [heS]; intro hu
    rw [show cellS0.vm = .unknown from hu] at hiss
    cases hiss
  have hvU : cellS.slots[T.fUnassigned.slot]? = some u0.v := by rw [hkeep _ (hout' _)]; exact hu0
  have hvSen : cellS.slots[T.fSentinel.slot]? = some sen.v := by rw [hkeep _ (hout' _)]; exact hsen
  obtain ⟨iM, hffM⟩ := Y.msg
  obtain ⟨tyC, dC, hdC, hdnC⟩ := Cond.laysAt hfound hk Y.cause (a (.lays cls Bundle.tN "cause" "Ljava/lang/Throwable;") (by simp [Bundle.messageArmAtoms]))
  obtain ⟨tyS, dS, hdS, hdnS⟩ := Cond.laysAt hfound hk Y.stack (a (.lays cls Bundle.tN "stackTrace" Bundle.steD) (by simp [Bundle.messageArmAtoms]))
  obtain ⟨tyP, dP, hdP, hdnP⟩ := Cond.laysAt hfound hk Y.supp (a (.lays cls Bundle.tN "suppressedExceptions" Bundle.listD) (by simp [Bundle.messageArmAtoms]))
  obtain ⟨tyM, dM, hdM, hdnM⟩ := Cond.laysAt hfound hk hffM (a (.lays cls Bundle.tN "detailMessage" "Ljava/lang/String;") (by simp [Bundle.messageArmAtoms]))
  obtain ⟨tyB, dB, hdB, hdnB⟩ := Cond.laysAt hfound hk hffB (a (.lays cls Bundle.tN "backtrace" "Ljava/lang/Object;") (by simp [Bundle.messageArmAtoms]))
  have bC := Cond.laysApart hdB hdC hdnB hdnC (by rw [hnB, Y.causeName]; decide)
  have bS := Cond.laysApart hdB hdS hdnB hdnS (by rw [hnB, Y.stackName]; decide)
  have bP := Cond.laysApart hdB hdP hdnB hdnP (by rw [hnB, Y.suppName]; decide)
  have hbk : ((preparedCellV T.toThrowableT (freshCell P1.m.cls kX) (W.heap.size + 2) u0 sen).withEntry W.cur).slots[fB.slot]? = some .null := by
    have := fresh_default (c := P1.m.cls) tyB
    rw [htB] at this
    simpa [preparedCellV, Cell.setSlot, Cell.withEntry, Array.getElem?_setIfInBounds, bC, bS, bP, bC.symm, bS.symm, bP.symm, defaultValue] using this
  have tkC := Takes.of_laid (v := .ref (W.heap.size + 2)) hk hord tyC (by rw [Y.causeType]; rfl)
  have tkS := Takes.of_laid (v := u0.v) hk hord tyS (by rw [Y.stackType]; exact fits_refV_array _ u0)
  have tkP := Takes.of_laid (v := sen.v) hk hord tyP (by rw [Y.suppType]; exact fits_refV_object _ sen)
  have tkM := Takes.of_laid (v := .ref (W.heap.size + 1)) hk hord tyM (by rw [Y.msgType]; rfl)
  have hskip : SkipFacts T e.platform s (fun u => u) u0 ((preparedCellV T.toThrowableT (freshCell P1.m.cls kX) (W.heap.size + 2) u0 sen).withEntry W.cur) := ⟨{ ci198 := ci198, i198 := i198, fBack := fB }, ⟨hk198, hg198, ha198, hsB⟩, hbk, fun _ _ => rfl⟩
  have h0 : At W g.method c below := by rw [hg]; exact X.here
  obtain ⟨hbeyond, hfreeW⟩ := X.vmMayThrow hsize (.throwNew cls (some text) none) (fun f hf => by cases hf) rfl hRlocals
  have hfr' : W.frames.length + Ps.length + 4 < (e.platform.stackLimits W.me).1 := by have := X.framesAbove hRframes; omega
  have hwd' : (stackUse (.java g :: W.frames.tail)).2 + 13 * Ps.length + 55 ≤ (e.platform.stackLimits W.me).2 := by have := X.stackAbove hsize (K := 13 * Ps.length + 55) (by omega); omega
  have hslots : W.slotsUsed + (stringBytes (stringToUtf16 text)).size + Zs.kS.instanceTypes.size + kX.instanceTypes.size ≤ e.platform.maxSlots := by
    have := X.slotsAbove hRslots
    rw [hn4, hn6]
    omega
  obtain ⟨vm', hW', st⟩ := Steps.vmThrowsMessageColdByV p (s₀ := s) (S := W) (g := g) h0 hexec T L Z LZ M LM X.warmed (t := W.cur) rfl Zs LZs P1 L1 Ps hL hlink1 hlink hsoe hoom hfound hk hinit hord hctor
    (Launch.admits_hotImplicitExceptions X.admits) hbeyond hfreeW htext hlimit hheap (X.cellsAbove hRcells) hslots (hfitv _) (hfitc _)
    (Nn := fun u => u) heapOnly_id (fun _ _ => rfl) (fun _ => rfl) (fun u x y => setCell_twice _ _ _ _) (fun _ => Nat.le_refl _) (cN := ((preparedCellV T.toThrowableT (freshCell P1.m.cls kX) (W.heap.size + 2) u0 sen).withEntry W.cur))
    hsel0 hcellS hknownS hvU tkS (fun _ hu => hu) (fun _ hu => hu) rfl rfl rfl (by simp [preparedCellV, Cell.setSlot, Cell.withEntry]) hskip (fun _ _ hA hW _ hroom _ hrest => L.nativeOff p htr hA hW hroom hrest) hselF hvSen tkC tkP tkM Y.objLocals rfl hfr' hwd'
  rw [plainBareV_eq T.toThrowableT (W.heap.size + 2) u0 sen (.ref (W.heap.size + 1)) W.cur rfl rfl] at st
  obtain ⟨-, -, w3, w4, -, -, -⟩ := withThrown_facts e.platform W Zs text P1.m.cls kX
  have X3 := ((X.pushed (bytesOf Zs.cB (stringToUtf16 text))).pushed (stringAt Zs.cS Zs.kS Zs.fv Zs.fc (stringToUtf16 text) W.heap.size)).pushed (freshCell P1.m.cls kX)
  rw [← withString_eq] at X3
  have X4 := X3.noted hW'
  have ha : (W.heap.size + 2) < ((withThrown W Zs text P1.m.cls kX).setVm vm').heap.size := by show _ < (withThrown W Zs text P1.m.cls kX).heap.size; rw [w3]; omega
  have hcell : ((withThrown W Zs text P1.m.cls kX).setVm vm').heap[(W.heap.size + 2)]? = some (freshCell P1.m.cls kX) := w4
  have X5 := ((((X4.stored hcell T.fCause.slot (.ref (W.heap.size + 2))).storedAgain ha T.fStack.slot u0.v).storedAgain ha T.fSupp.slot sen.v).storedAgain ha T.fStack.slot u0.v).storedAgain ha T.fMsg.slot (.ref (W.heap.size + 1))
  obtain ⟨g₁, hfrM⟩ := X5.frames_eq
  have hU : ((((withThrown W Zs text P1.m.cls kX).setVm vm').setCell (W.heap.size + 2) (plainBareV T.toThrowableT (freshCell P1.m.cls kX) (W.heap.size + 2) u0 sen (.ref (W.heap.size + 1)))).setTop g).pushFrame (.throwing (W.heap.size + 2)) = (((withThrown W Zs text P1.m.cls kX).setVm vm').setCell (W.heap.size + 2) (plainBareV T.toThrowableT (freshCell P1.m.cls kX) (W.heap.size + 2) u0 sen (.ref (W.heap.size + 1)))).setFrames (.throwing (W.heap.size + 2) :: .java g :: below) := by
    rw [State.pushFrame, State.frames_setTop _ hfrM, State.setTop_of_frames _ hfrM, State.setFrames_setFrames]
  have b1 : (bytesOf Zs.cB (stringToUtf16 text)).slots.size = (stringBytes (stringToUtf16 text)).size := by
    rw [(Cell.writeAll_facts _ _).2.2]; simp [bytes0]
  have b2 : (stringAt Zs.cS Zs.kS Zs.fv Zs.fc (stringToUtf16 text) W.heap.size).slots.size = 4 := by simp [string0, Cell.setSlot, hn4]
  have b3 : (freshCell P1.m.cls kX).slots.size = 6 := by simp [hn6]
  rw [b1, b2, b3] at X5
  have e9 : slots + (stringBytes (stringToUtf16 text)).size + 4 + 6 = slots + ((stringBytes (stringToUtf16 text)).size + 4 + 6) := by omega
  rw [e9] at X5
  simp only [List.append_assoc, List.cons_append, List.nil_append] at X5
  refine ⟨((withThrown W Zs text P1.m.cls kX).setVm vm').setCell (W.heap.size + 2) (plainBareV T.toThrowableT (freshCell P1.m.cls kX) (W.heap.size + 2) u0 sen (.ref (W.heap.size + 1))), W.heap.size + 2, _, fun target ht => st _ (by rw [X.tail, ← hU]; exact ht),
    X5.forget (fun y hy => ?_), heapAt_setCell_self _ ha, hfound, rfl⟩
  simp only [List.mem_cons, List.not_mem_nil, or_false] at hy
  have hge : s.heap.size ≤ W.heap.size := X.same.2.1
  rcases hy with rfl | rfl | rfl | rfl | rfl <;> exact Nat.le_trans hge (Nat.le_add_right _ 2)
set_option maxHeartbeats 1000000 in
/-- the machine throws NullPointerException, no traces kept: from its note over the frame g to 'throwing' over the same frame (follows the proof of Stand.vmThrowsNpe, Shelf42/KT2.lean; throwsNpeColdBareVAt, Shelf42/NT91.lean, called) -/
theorem vx_npeAt {p : Program} {l : Launch} {e : Env} {R : Room} {s : State} {m₀ : MethodId} {args : Array Value} {below : List Frame} {meth : Method} {c : Code} {W : State} {locs : List Loc} {cells slots : Nat}
    (X : Stand p l e R s m₀ args below meth c W locs cells slots) (hexec : p.tables.exec = Jvm.exec) (htr : e.platform.stackTraces = false) {n : Nat}
    (h : ∀ a ∈ Bundle.npeArmAtoms n, a.before args s = true)
    (hlocs : ∀ x ∈ locs, ∀ cell, s.heap[x.base]? = some cell → cell.vm.isStatics = false)
    {g : JFrame} (hg : g.method = m₀) (hsize : g.locals.size = c.maxLocals)
    (hRframes : 7 < R.frames) (hRlocals : 2 * g.monitorRoom + (g.stack.map fun v => v.category).sum + 10240 ≤ R.locals)
    (hRcells : cells + 1 ≤ R.cells) (hRslots : slots + n ≤ R.slots) (hlocks : meth.locks = false) :
    ∃ (S : State) (q : Addr) (ce : Cell), (∀ target, Steps p.tables e below ((S.setTop g).pushFrame (.throwing q)) target → Steps p.tables e below ((W.setTop g).pushFrame (.throwNew "java/lang/NullPointerException" none none)) target) ∧
      Stand p l e R s m₀ args below meth c S locs (cells + 1) (slots + n) ∧ S.heap[q]? = some ce ∧ s.vm.findClass "java/lang/NullPointerException" = some ce.cls ∧ ce.vm = .none := by
  have howns : e.platform.frameOwnsMonitors = true := by rw [X.admits.platform]
  have hfin : e.platform.finalization = false := by rw [X.admits.platform]
  have hpl : e.platform.magicAccessors = ({} : Platform).magicAccessors := by rw [X.admits.platform]
  have hpl2 : e.platform.arrayCloneIsPublic = true := by rw [X.admits.platform]
  have a' : ∀ x, x ∈ Bundle.npeArmAtoms n → x.holds args s none s [] = true := fun x hx => h x hx
  obtain ⟨T, Z, L, LZ, Y⟩ := ThrowableC.of_atoms (args := args) howns hfin hpl (fun x hx => h x (by simp [Bundle.npeArmAtoms, hx]))
  obtain ⟨N, LN, hcN, hnNF, hordN, hffS⟩ := NpeC.of_atoms (args := args) hpl hpl2 L Y (fun x hx => h x (by simp [Bundle.npeArmAtoms, hx]))
  obtain ⟨P1, L1, hP1m, hP1s⟩ := PassC.of_atoms (args := args) (s := s) hpl (X := Bundle.nN) (Y := Bundle.rN) (by decide) (by decide) LibCode.NullPointerException.Init0.at_0 LibCode.NullPointerException.Init0.at_1 LibCode.NullPointerException.Init0.at_4 (fun x hx => h x (by simp [Bundle.npeArmAtoms, hx]))
  obtain ⟨PR, LR, hPRm, hPRs⟩ := PassC.of_atoms (args := args) (s := s) hpl (X := Bundle.rN) (Y := Bundle.eN) (by decide) (by decide) LibCode.RuntimeException.Init0.at_0 LibCode.RuntimeException.Init0.at_1 LibCode.RuntimeException.Init0.at_4 (fun x hx => h x (by simp [Bundle.npeArmAtoms, hx]))
  obtain ⟨PE, LEx, hPEm, hPEs⟩ := PassC.of_atoms (args := args) (s := s) hpl (X := Bundle.eN) (Y := Bundle.tN) (by decide) (by decide) LibCode.Exception.Init0.at_0 LibCode.Exception.Init0.at_1 LibCode.Exception.Init0.at_4 (fun x hx => h x (by simp [Bundle.npeArmAtoms, hx]))
  have hfound : s.vm.findClass Bundle.nN = some P1.m.cls := findClass_of_methodNamed hP1m
  have ecls : N.cN = P1.m.cls := Option.some.inj (hcN.symm.trans hfound)
  have hk : s.vm.classes[P1.m.cls]? = some N.kN := by rw [← ecls]; exact LN.cls
  have hinit := Cond.initialized_spec hfound hk (a' (.initialized Bundle.nN) (by simp [Bundle.npeArmAtoms]))
  have hctor : N.kN.findMethod "<init>" "()V" = some P1.m.idx := findMethod_of_methodNamed hP1m hk
  obtain ⟨c1, k1, hc1, hk1, -, -, -, hn⟩ := Cond.instantiable_spec (a' (.instantiable Bundle.nN n) (by simp [Bundle.npeArmAtoms]))
  cases Option.some.inj (hc1.symm.trans hfound)
  cases Option.some.inj (hk1.symm.trans hk)
  have hfsz : (freshCell P1.m.cls N.kN).slots.size = n := by simp [hn]
  have hlink1 : P1.sup = PR.m := Option.some.inj (hP1s.symm.trans hPRm)
  have hlinkR : PR.sup = PE.m := Option.some.inj (hPRs.symm.trans hPEm)
  have hlinkE : PE.sup = Z.m T.toThrowableT := Option.some.inj (hPEs.symm.trans Y.init0)
  have hLs : ∀ P, P ∈ [PR, PE] → P.Links0 e.platform s := fun P hP => by
    simp only [List.mem_cons, List.not_mem_nil, or_false] at hP
    rcases hP with rfl | rfl
    · exact LR
    · exact LEx
  have hsel0 : selectMethod e.platform s.vm P1.m.cls T.fill0 = .method T.fill0 := by
    obtain ⟨c2, r2, m2, q1, q2, q3, q4, -⟩ := Cond.selects_spec (a' (.selects Bundle.nN Bundle.tFill0 Bundle.tFill0) (by simp [Bundle.npeArmAtoms]))
    cases Option.some.inj (q1.symm.trans hfound)
    cases Option.some.inj (q2.symm.trans (State.methodFound?_of_named Y.fill0 (by decide)))
    cases Option.some.inj (q3.symm.trans Y.fill0)
    rw [Launch.admits_selectMethod X.admits]; exact q4
  have hselF : selectMethod e.platform s.vm P1.m.cls T.fill = .method N.fill := by
    obtain ⟨c2, r2, m2, q1, q2, q3, q4, -⟩ := Cond.selects_spec (a' (.selects Bundle.nN Bundle.tFill Bundle.nFill) (by simp [Bundle.npeArmAtoms]))
    cases Option.some.inj (q1.symm.trans hfound)
    cases Option.some.inj (q2.symm.trans (State.methodFound?_of_named Y.fill (by decide)))
    cases Option.some.inj (q3.symm.trans hnNF)
    rw [Launch.admits_selectMethod X.admits]; exact q4
  obtain ⟨cellS0, hcS0, hiss⟩ := Y.statics
  obtain ⟨u0, hu0⟩ := Cond.staticRefV Y.unassigned L.unassignedStatic L.statics hcS0 hiss (a' (.isRef (.static Bundle.tN "UNASSIGNED_STACK" Bundle.steD)) (by simp [Bundle.npeArmAtoms]))
  obtain ⟨sen, hsen⟩ := Cond.staticRefV Y.sentinel L.sentinelStatic L.statics hcS0 hiss (a' (.isRef (.static Bundle.tN "SUPPRESSED_SENTINEL" Bundle.listD)) (by simp [Bundle.npeArmAtoms]))
  obtain ⟨ci198, i198, fB, hk198, hg198, ha198, hsB, -, hnB, htB, hffB⟩ := Cond.ownField (t := .object "java/lang/Object") Y.found L.cls (by decide +kernel) (a' (.fieldLink Bundle.tN 198 Bundle.tN "backtrace" Bundle.objD) (by simp [Bundle.npeArmAtoms])) (a' (.lays Bundle.tN Bundle.tN "backtrace" Bundle.objD) (by simp [Bundle.npeArmAtoms])) e.platform hpl
  obtain ⟨cellS, hcS', heS, -, hkeep⟩ := X.same.2.2.2.2.2 T.aS cellS0 hcS0
  have hcellS : W.heap[T.aS]? = some cellS := hcS'
  have hout' : ∀ i, (⟨T.aS, i⟩ : Loc) ∉ locs := fun i hmem => by
    have := hlocs _ hmem cellS0 hcS0
    rw [hiss] at this; cases this
  have hknownS : cellS.vm ≠ .unknown := by
    rw [heS]; intro hu
    rw [show cellS0.vm = .unknown from hu] at hiss
    cases hiss
  have hvU : cellS.slots[T.fUnassigned.slot]? = some u0.v := by rw [hkeep _ (hout' _)]; exact hu0
  have hvSen : cellS.slots[T.fSentinel.slot]? = some sen.v := by rw [hkeep _ (hout' _)]; exact hsen
  obtain ⟨tyC, dC, hdC, hdnC⟩ := Cond.laysAt hfound hk Y.cause (a' (.lays Bundle.nN Bundle.tN "cause" "Ljava/lang/Throwable;") (by simp [Bundle.npeArmAtoms]))
  obtain ⟨tyS, dS, hdS, hdnS⟩ := Cond.laysAt hfound hk Y.stack (a' (.lays Bundle.nN Bundle.tN "stackTrace" Bundle.steD) (by simp [Bundle.npeArmAtoms]))
  obtain ⟨tyP, dP, hdP, hdnP⟩ := Cond.laysAt hfound hk Y.supp (a' (.lays Bundle.nN Bundle.tN "suppressedExceptions" Bundle.listD) (by simp [Bundle.npeArmAtoms]))
  obtain ⟨tyX, dX, hdX, hdnX⟩ := Cond.laysAt hfound hk hffS (a' (.lays Bundle.nN Bundle.nN "extendedMessageState" "I") (by simp [Bundle.npeArmAtoms, Bundle.npeAtoms]))
  obtain ⟨hnX, htX⟩ := State.fieldFound?_type hffS (t := .int) (by decide +kernel)
  have xC := Cond.laysApart hdC hdX hdnC hdnX (by rw [hnX, Y.causeName]; decide)
  have xS := Cond.laysApart hdS hdX hdnS hdnX (by rw [hnX, Y.stackName]; decide)
  have xP := Cond.laysApart hdP hdX hdnP hdnX (by rw [hnX, Y.suppName]; decide)
  have hv0 : (freshCell P1.m.cls N.kN).slots[N.fState.slot]? = some (.int 0) := by
    have := fresh_default (c := P1.m.cls) tyX
    rw [htX] at this; exact this
  obtain ⟨tyB, dB, hdB, hdnB⟩ := Cond.laysAt hfound hk hffB (a' (.lays Bundle.nN Bundle.tN "backtrace" Bundle.objD) (by simp [Bundle.npeArmAtoms]))
  have bC := Cond.laysApart hdB hdC hdnB hdnC (by rw [hnB, Y.causeName]; decide)
  have bS := Cond.laysApart hdB hdS hdnB hdnS (by rw [hnB, Y.stackName]; decide)
  have bP := Cond.laysApart hdB hdP hdnB hdnP (by rw [hnB, Y.suppName]; decide)
  have bX := Cond.laysApart hdB hdX hdnB hdnX (by rw [hnB, hnX]; decide)
  have hbk : ((npeCell N.toNpeT (preparedCellV T.toThrowableT (freshCell P1.m.cls N.kN) W.heap.size u0 sen) W.cur).withEntry W.cur).slots[fB.slot]? = some .null := by
    have := fresh_default (c := P1.m.cls) tyB
    rw [htB] at this
    simpa [npeCell, preparedCellV, Cell.setSlot, Cell.withEntry, Array.getElem?_setIfInBounds, bC, bS, bP, bX, bC.symm, bS.symm, bP.symm, bX.symm, defaultValue] using this
  have tkC := Takes.of_laid (v := .ref W.heap.size) hk hordN tyC (by rw [Y.causeType]; rfl)
  have tkS := Takes.of_laid (v := u0.v) hk hordN tyS (by rw [Y.stackType]; exact fits_refV_array _ u0)
  have tkP := Takes.of_laid (v := sen.v) hk hordN tyP (by rw [Y.suppType]; exact fits_refV_object _ sen)
  have tkX := Takes.of_laid (v := .int 1) hk hordN tyX (by rw [htX]; rfl)
  have hskip : SkipFacts T e.platform s (fun u => u) u0 ((npeCell N.toNpeT (preparedCellV T.toThrowableT (freshCell P1.m.cls N.kN) W.heap.size u0 sen) W.cur).withEntry W.cur) := ⟨{ ci198 := ci198, i198 := i198, fBack := fB }, ⟨hk198, hg198, ha198, hsB⟩, hbk, fun _ _ => rfl⟩
  obtain ⟨vm', X3, st, -⟩ := X.throwsNpeColdBareVAt hexec hg hsize T L Z LZ N LN P1 L1 [PR, PE] hLs hlink1 ⟨hlinkR, hlinkE, trivial⟩ hfound hk hinit hordN hctor hsel0 hselF hcellS hknownS hvU hvSen
    hv0 xC xS xP tkC tkS tkP tkX Y.objLocals hskip (fun _ _ hA hW _ hroom _ hrest => L.nativeOff p htr hA hW hroom hrest) (by simpa using hRframes) hRlocals (by simp) hRcells (by rw [hn]; exact hRslots)
  have hlt : W.heap.size < ((W.pushCell (freshCell P1.m.cls N.kN)).setVm vm').heap.size := by
    show W.heap.size < (W.pushCell (freshCell P1.m.cls N.kN)).heap.size
    rw [State.heap_size_pushCell]; omega
  rw [hfsz] at X3
  obtain ⟨g₁, hfrM⟩ := X3.frames_eq
  have hU : ((((W.pushCell (freshCell P1.m.cls N.kN)).setVm vm').setCell W.heap.size (npeBareV T.toThrowableT N.toNpeT (freshCell P1.m.cls N.kN) W.heap.size u0 sen)).setTop g).pushFrame (.throwing W.heap.size) = (((W.pushCell (freshCell P1.m.cls N.kN)).setVm vm').setCell W.heap.size (npeBareV T.toThrowableT N.toNpeT (freshCell P1.m.cls N.kN) W.heap.size u0 sen)).setFrames (.throwing W.heap.size :: .java g :: below) := by
    rw [State.pushFrame, State.frames_setTop _ hfrM, State.setTop_of_frames _ hfrM, State.setFrames_setFrames]
  refine ⟨_, W.heap.size, _, fun target ht => st.trans (by rw [← hU]; exact ht), X3.forget (fun y hy => ?_), heapAt_setCell_self _ hlt, hfound, rfl⟩
  simp only [List.mem_cons, List.not_mem_nil, or_false] at hy
  have hge : s.heap.size ≤ W.heap.size := X.same.2.1
  rcases hy with rfl | rfl | rfl | rfl | rfl <;> exact hge
/-- the words of a machine's NullPointerException, but the four that speak of the heap -/
def vx_atN (n : Nat) : List Cond := (Bundle.npeArmAtoms n).filter vx_no
/-- the words of a machine's throw with a message, but the four that speak of the heap -/
def vx_atM (X : String) (names : List String) : List Cond := (Bundle.messageArmAtoms X names).filter vx_no
section
variable {p : Program} {l : Launch} {e : Env} {R : Room} {s : State} {m : MethodId} {args : Array Value} {below : List Frame} {meth : Method} {c : Code} {H : Heap} {locs : List Loc} {cells slots : Nat}
/-- a frame seen from a rebased start, seen from the first start again -/
theorem vx_back9 {T S : State} {R' : Room} {k n : Nat} (X : Stand p l e R s m args below meth c T locs cells slots) (Y : Stand p l e R' ((T.setVm s.vm).setFrames (.invoking m args :: below)) m args below meth c T [] 0 0) (Z : Stand p l e R' ((T.setVm s.vm).setFrames (.invoking m args :: below)) m args below meth c S [] k n) :
    Stand p l e R s m args below meth c S locs (cells + k) (slots + n) := by
  have hW0 : s.WarmedH ((T.setVm s.vm).setFrames (.invoking m args :: below)).vm := State.WarmedH.refl s
  refine { admits := X.admits, cas := X.cas, clock := X.clock, frames := X.frames, room := X.room, hears := X.hears, method := X.method, code := X.code, here := Z.here, tail := Z.tail, warmed := State.WarmedH.trans hW0 Z.warmed, limits := Z.limits.trans (Y.limits.symm.trans X.limits), bytes := Z.bytes.trans (Y.bytes.symm.trans X.bytes), same := ?_ }
  obtain ⟨e1, e2⟩ := Z.same
  rw [State.setFrames_setFrames] at e1
  have h2 : (T.setVm s.vm).sameButNew (S.setVm s.vm) [] k n := ⟨e1, e2⟩
  have h3 := X.same.trans h2
  rw [List.append_nil] at h3
  exact h3
/-- from the machine's note that E is thrown here with this text -/
def vx_Note (p : Program) (l : Launch) (e : Env) (R : Room) (s : State) (m : MethodId) (args : Array Value) (below : List Frame) (meth : Method) (c : Code) (H : Heap) (locs : List Loc) (cells slots : Nat) (Q : State → Prop) (g : JFrame) (E text : String) : Prop :=
  ∀ T : State, T.heap = H → Stand p l e R s m args below meth c T locs cells slots → ∃ t, Steps p.tables e below ((T.setTop g).pushFrame (.throwNew E (some text) none)) t ∧ Q t
theorem vx_vm {pc : Nat} {ls : Array Slot} {rest : List Value} {Q : State → Prop} (hexec : p.tables.exec = Jvm.exec) (hl : l.stackTraces = false) {cls text : String} {names : List String} {nb : Nat} {A : Nat → Prop}
    (hcls : Bundle.fit cls = true) (hnames : ∀ n ∈ names, Bundle.fit n = true) (hsoe : (cls == "java/lang/StackOverflowError") = false) (hoom : (cls == "java/lang/OutOfMemoryError") = false)
    (hat : ∀ w ∈ vx_atM cls names, w.before args s = true) (hgood : ∀ w ∈ vx_atM cls names, vx_ot w = true)
    (hU : vx_Zq Bundle.tN "UNASSIGNED_STACK" Bundle.steD A s s.heap) (hN : vx_Zq Bundle.tN "SUPPRESSED_SENTINEL" Bundle.listD A s s.heap) (hS : va_S A s.heap H locs) (hsize : ls.size = c.maxLocals)
    (htext : (text == notModelled) = false) (hnb : (stringBytes (stringToUtf16 text)).size ≤ nb) (hnb1 : nb ≤ 1000)
    (hRframes : names.length + 4 < R.frames) (hRlocals : (rest.map fun v => v.category).sum + 10240 ≤ R.locals) (hshort : 13 * names.length + 55 ≤ 10240) (hRcells : cells + 3 ≤ R.cells) (hRslots : slots + (nb + 10) ≤ R.slots) (hlocks : meth.locks = false)
    (k : ∀ (H1 : Heap) (q9 : Addr) (ce : Cell), H.size ≤ H1.size → (∀ q : Nat, q < H.size → H1[q]? = H[q]?) → va_S A s.heap H1 locs → H1[q9]? = some ce → ce.vm = .none → s.vm.findClass cls = some ce.cls → vx_W p l e R s m args below meth c H1 locs (cells + 3) (slots + (nb + 10)) Q (F0 m pc ls rest) q9) :
    vx_Note p l e R s m args below meth c H locs cells slots Q (F0 m pc ls rest) cls text := by
  intro T hT X
  have htr : e.platform.stackTraces = false := (show e.platform.stackTraces = l.stackTraces by rw [X.admits.platform]).trans hl
  have Y := vx_rebase X (R' := { frames := R.frames, locals := R.locals, cells := 3, slots := nb + 10 }) (Nat.le_refl _) (Nat.le_refl _) hRcells hRslots
  have hhp : ((T.setVm s.vm).setFrames (.invoking m args :: below)).heap = H := hT
  have hW0 : s.WarmedH ((T.setVm s.vm).setFrames (.invoking m args :: below)).vm := State.WarmedH.refl s
  have hat' : ∀ w ∈ vx_atM cls names, w.before args ((T.setVm s.vm).setFrames (.invoking m args :: below)) = true := fun w hw => vx_ot_at hW0 rfl (hgood w hw) (hat w hw)
  have hU' : vx_Zq Bundle.tN "UNASSIGNED_STACK" Bundle.steD A ((T.setVm s.vm).setFrames (.invoking m args :: below)) ((T.setVm s.vm).setFrames (.invoking m args :: below)).heap := by rw [hhp]; exact vx_Zq.moved hW0.alike (hU.kept hS.2.1)
  have hN' : vx_Zq Bundle.tN "SUPPRESSED_SENTINEL" Bundle.listD A ((T.setVm s.vm).setFrames (.invoking m args :: below)) ((T.setVm s.vm).setFrames (.invoking m args :: below)).heap := by rw [hhp]; exact vx_Zq.moved hW0.alike (hN.kept hS.2.1)
  obtain ⟨S, q, ce, st, Z, hce, hcl', hv⟩ := vx_vmAt Y hexec htr (cls := cls) (names := names) (text := text) hcls hnames hsoe hoom (vx_own hat' (vx_isRefq hU'.1) (vx_isRefq hN'.1) hU'.2.word hN'.2.word) (fun x hx => nomatch hx) htext
    (by rw [Launch.admits_arrayLengthLimit X.admits]; omega) (by rw [Launch.admits_maxHeapBytes X.admits]; simp only [componentBytes]; omega)
    (g := F0 m pc ls rest) rfl hsize hRframes (by show 2 * 0 + (rest.map fun v => v.category).sum + 10240 ≤ R.locals; omega) hshort (by show 0 + 3 ≤ 3; omega) (by show 0 + (_ + 4 + 6) ≤ nb + 10; omega) hlocks
  obtain ⟨f1, f2⟩ := vx_frame Z.same
  have f1' : H.size ≤ S.heap.size := by rw [← hT]; exact f1
  have f2' : ∀ q : Nat, q < H.size → S.heap[q]? = H[q]? := fun q hq => by
    rw [← hT]
    exact f2 q (by rw [← hT] at hq; exact hq) (fun z hz => nomatch hz)
  have X5 := vx_back9 X Y Z
  have X6 : Stand p l e R s m args below meth c S locs (cells + 3) (slots + (nb + 10)) := { X5 with same := X5.same.mono (by omega) (by omega) }
  obtain ⟨t, a1, b1⟩ := k S.heap q ce f1' f2' ⟨Nat.le_trans hS.1 f1', fun q h1 h2 => (f2' q (Nat.lt_of_lt_of_le h1 hS.1)).trans (hS.2.1 q h1 h2), hS.2.2⟩ hce hv hcl' S rfl X6
  exact ⟨t, st t a1, b1⟩
/-- from the machine's note that NullPointerException is thrown here -/
def vx_NoteN (p : Program) (l : Launch) (e : Env) (R : Room) (s : State) (m : MethodId) (args : Array Value) (below : List Frame) (meth : Method) (c : Code) (H : Heap) (locs : List Loc) (cells slots : Nat) (Q : State → Prop) (g : JFrame) : Prop :=
  ∀ T : State, T.heap = H → Stand p l e R s m args below meth c T locs cells slots → ∃ t, Steps p.tables e below ((T.setTop g).pushFrame (.throwNew "java/lang/NullPointerException" none none)) t ∧ Q t
theorem vx_npe {pc : Nat} {ls : Array Slot} {rest : List Value} {Q : State → Prop} (hexec : p.tables.exec = Jvm.exec) (hl : l.stackTraces = false) {nb : Nat} {A : Nat → Prop}
    (hat : ∀ w ∈ vx_atN nb, w.before args s = true) (hgood : ∀ w ∈ vx_atN nb, vx_ot w = true)
    (hU : vx_Zq Bundle.tN "UNASSIGNED_STACK" Bundle.steD A s s.heap) (hN : vx_Zq Bundle.tN "SUPPRESSED_SENTINEL" Bundle.listD A s s.heap) (hS : va_S A s.heap H locs) (hsize : ls.size = c.maxLocals)
    (hRframes : 7 < R.frames) (hRlocals : (rest.map fun v => v.category).sum + 10240 ≤ R.locals) (hRcells : cells + 1 ≤ R.cells) (hRslots : slots + nb ≤ R.slots) (hlocks : meth.locks = false)
    (k : ∀ (H1 : Heap) (q9 : Addr) (ce : Cell), H.size ≤ H1.size → (∀ q : Nat, q < H.size → H1[q]? = H[q]?) → va_S A s.heap H1 locs → H1[q9]? = some ce → ce.vm = .none → s.vm.findClass "java/lang/NullPointerException" = some ce.cls → vx_W p l e R s m args below meth c H1 locs (cells + 1) (slots + nb) Q (F0 m pc ls rest) q9) :
    vx_NoteN p l e R s m args below meth c H locs cells slots Q (F0 m pc ls rest) := by
  intro T hT X
  have htr : e.platform.stackTraces = false := (show e.platform.stackTraces = l.stackTraces by rw [X.admits.platform]).trans hl
  have Y := vx_rebase X (R' := { frames := R.frames, locals := R.locals, cells := 1, slots := nb }) (Nat.le_refl _) (Nat.le_refl _) hRcells hRslots
  have hhp : ((T.setVm s.vm).setFrames (.invoking m args :: below)).heap = H := hT
  have hW0 : s.WarmedH ((T.setVm s.vm).setFrames (.invoking m args :: below)).vm := State.WarmedH.refl s
  have hat' : ∀ w ∈ vx_atN nb, w.before args ((T.setVm s.vm).setFrames (.invoking m args :: below)) = true := fun w hw => vx_ot_at hW0 rfl (hgood w hw) (hat w hw)
  have hU' : vx_Zq Bundle.tN "UNASSIGNED_STACK" Bundle.steD A ((T.setVm s.vm).setFrames (.invoking m args :: below)) ((T.setVm s.vm).setFrames (.invoking m args :: below)).heap := by rw [hhp]; exact vx_Zq.moved hW0.alike (hU.kept hS.2.1)
  have hN' : vx_Zq Bundle.tN "SUPPRESSED_SENTINEL" Bundle.listD A ((T.setVm s.vm).setFrames (.invoking m args :: below)) ((T.setVm s.vm).setFrames (.invoking m args :: below)).heap := by rw [hhp]; exact vx_Zq.moved hW0.alike (hN.kept hS.2.1)
  obtain ⟨S, q, ce, st, Z, hce, hcl', hv⟩ := vx_npeAt Y hexec htr (n := nb) (vx_own hat' (vx_isRefq hU'.1) (vx_isRefq hN'.1) hU'.2.word hN'.2.word) (fun x hx => nomatch hx)
    (g := F0 m pc ls rest) rfl hsize hRframes (by show 2 * 0 + (rest.map fun v => v.category).sum + 10240 ≤ R.locals; omega) (by show 0 + 1 ≤ 1; omega) (by show 0 + nb ≤ nb; omega) hlocks
  obtain ⟨f1, f2⟩ := vx_frame Z.same
  have f1' : H.size ≤ S.heap.size := by rw [← hT]; exact f1
  have f2' : ∀ q : Nat, q < H.size → S.heap[q]? = H[q]? := fun q hq => by
    rw [← hT]
    exact f2 q (by rw [← hT] at hq; exact hq) (fun z hz => nomatch hz)
  have X5 := vx_back9 X Y Z
  have X6 : Stand p l e R s m args below meth c S locs (cells + 1) (slots + nb) := { X5 with same := X5.same.mono (by omega) (by omega) }
  obtain ⟨t, a1, b1⟩ := k S.heap q ce f1' f2' ⟨Nat.le_trans hS.1 f1', fun q h1 h2 => (f2' q (Nat.lt_of_lt_of_le h1 hS.1)).trans (hS.2.1 q h1 h2), hS.2.2⟩ hce hv hcl' S rfl X6
  exact ⟨t, st t a1, b1⟩
variable {Q : State → Prop} {cc : ByteArray} {pc : Nat} {ls : Array Slot} {rest : List Value}
theorem vx_idivZ (hexec : p.tables.exec = Jvm.exec) (hb : c.code = cc) {a b : Int32} (h0 : b = 0) (d : decode cc pc = .ok (.idiv, 1)) (k : vx_Note p l e R s m args below meth c H locs cells slots Q (F0 m pc ls rest) "java/lang/ArithmeticException" "/ by zero") :
    W p l e R s m args below meth c H locs cells slots Q (F0 m pc ls (.int b :: .int a :: rest)) := by
  intro T hT X
  obtain ⟨t, st, q⟩ := k T hT X
  exact ⟨t, X.idivZero hexec (g := F0 m pc ls (.int b :: .int a :: rest)) rfl (a := a) (rest := rest) (by rw [h0]) (by rw [hb]; exact d) t st, q⟩
theorem vx_iremZ (hexec : p.tables.exec = Jvm.exec) (hb : c.code = cc) {a b : Int32} (h0 : b = 0) (d : decode cc pc = .ok (.irem, 1)) (k : vx_Note p l e R s m args below meth c H locs cells slots Q (F0 m pc ls rest) "java/lang/ArithmeticException" "/ by zero") :
    W p l e R s m args below meth c H locs cells slots Q (F0 m pc ls (.int b :: .int a :: rest)) := by
  intro T hT X
  obtain ⟨t, st, q⟩ := k T hT X
  exact ⟨t, X.iremZero hexec (g := F0 m pc ls (.int b :: .int a :: rest)) rfl (a := a) (rest := rest) (by rw [h0]) (by rw [hb]; exact d) t st, q⟩
theorem vx_ldivZ (hexec : p.tables.exec = Jvm.exec) (hb : c.code = cc) {a b : Int64} (h0 : b = 0) (d : decode cc pc = .ok (.ldiv, 1)) (k : vx_Note p l e R s m args below meth c H locs cells slots Q (F0 m pc ls rest) "java/lang/ArithmeticException" "/ by zero") :
    W p l e R s m args below meth c H locs cells slots Q (F0 m pc ls (.long b :: .long a :: rest)) := by
  intro T hT X
  obtain ⟨t, st, q⟩ := k T hT X
  exact ⟨t, X.ldivZero hexec (g := F0 m pc ls (.long b :: .long a :: rest)) rfl (a := a) (rest := rest) (by rw [h0]) (by rw [hb]; exact d) t st, q⟩
theorem vx_lremZ (hexec : p.tables.exec = Jvm.exec) (hb : c.code = cc) {a b : Int64} (h0 : b = 0) (d : decode cc pc = .ok (.lrem, 1)) (k : vx_Note p l e R s m args below meth c H locs cells slots Q (F0 m pc ls rest) "java/lang/ArithmeticException" "/ by zero") :
    W p l e R s m args below meth c H locs cells slots Q (F0 m pc ls (.long b :: .long a :: rest)) := by
  intro T hT X
  obtain ⟨t, st, q⟩ := k T hT X
  exact ⟨t, X.lremZero hexec (g := F0 m pc ls (.long b :: .long a :: rest)) rfl (a := a) (rest := rest) (by rw [h0]) (by rw [hb]; exact d) t st, q⟩
theorem vx_ialdZ {D : va_G} {cl : List vw_C} {ws : va_W} {tys : List (ClassId × FieldType)} {a : Nat} (hexec : p.tables.exec = Jvm.exec) (hb : c.code = cc) (hK : va_K D cl tys s) (hP : va_P D cl ws H) (q0 t0 : Nat) {cA : ClassId} {n : Nat} {f : Nat → Int32} (ha : ws[q0]? = some (a, .inl (cA, n, .inl f))) (ht : tys[t0]? = some (cA, .int)) {i : Int32} (hout : ¬ vp_in i n) (hdg : decode cc pc = .ok (.iaload, 1))
    (k : ∀ tx : String, tx = (toString "Index " ++ toString i ++ toString " out of bounds for length " ++ toString n : String) → vx_Note p l e R s m args below meth c H locs cells slots Q (F0 m pc ls rest) "java/lang/ArrayIndexOutOfBoundsException" tx) : W p l e R s m args below meth c H locs cells slots Q (F0 m pc ls (.int i :: .ref a :: rest)) := by
  intro T hT X
  obtain ⟨t, st, q⟩ := k _ rfl T hT X
  refine ⟨t, ?_, q⟩
  have h1 := X.ialoadOut hexec (by rw [hT]; exact hP q0 _ ha) ((hK.2 t0 _ ht).1 n (fun j => .int (f j))) (j := i) (by show (i < 0 ∨ (arrV _ _ _).slots.size ≤ _); rw [arrV_size]; exact Classical.byContradiction hout) (g := F0 m pc ls (.int i :: .ref a :: rest)) rfl (rest := rest) rfl (by rw [hb]; exact hdg) t
  simp only [arrV_size] at h1
  exact h1 st
theorem vx_iastZ {D : va_G} {cl : List vw_C} {ws : va_W} {tys : List (ClassId × FieldType)} {a : Nat} (hexec : p.tables.exec = Jvm.exec) (hb : c.code = cc) (hK : va_K D cl tys s) (hP : va_P D cl ws H) (q0 t0 : Nat) {cA : ClassId} {n : Nat} {f : Nat → Int32} (ha : ws[q0]? = some (a, .inl (cA, n, .inl f))) (ht : tys[t0]? = some (cA, .int)) {i : Int32} {x : Int32} (hout : ¬ vp_in i n) (hdg : decode cc pc = .ok (.iastore, 1))
    (k : ∀ tx : String, tx = (toString "Index " ++ toString i ++ toString " out of bounds for length " ++ toString n : String) → vx_Note p l e R s m args below meth c H locs cells slots Q (F0 m pc ls rest) "java/lang/ArrayIndexOutOfBoundsException" tx) : W p l e R s m args below meth c H locs cells slots Q (F0 m pc ls (.int x :: .int i :: .ref a :: rest)) := by
  intro T hT X
  obtain ⟨t, st, q⟩ := k _ rfl T hT X
  refine ⟨t, ?_, q⟩
  have h1 := X.iastoreOut hexec (by rw [hT]; exact hP q0 _ ha) ((hK.2 t0 _ ht).1 n (fun j => .int (f j))) (j := i) (by show (i < 0 ∨ (arrV _ _ _).slots.size ≤ _); rw [arrV_size]; exact Classical.byContradiction hout) (g := F0 m pc ls (.int x :: .int i :: .ref a :: rest)) rfl (rest := rest) rfl (by rw [hb]; exact hdg) t
  simp only [arrV_size] at h1
  exact h1 st
theorem vx_baldZ {D : va_G} {cl : List vw_C} {ws : va_W} {tys : List (ClassId × FieldType)} {a : Nat} (hexec : p.tables.exec = Jvm.exec) (hb : c.code = cc) (hK : va_K D cl tys s) (hP : va_P D cl ws H) (q0 t0 : Nat) {cA : ClassId} {n : Nat} {f : Nat → Int32} (ha : ws[q0]? = some (a, .inl (cA, n, .inl f))) (ht : tys[t0]? = some (cA, .byte)) {i : Int32} (hout : ¬ vp_in i n) (hdg : decode cc pc = .ok (.baload, 1))
    (k : ∀ tx : String, tx = (toString "Index " ++ toString i ++ toString " out of bounds for length " ++ toString n : String) → vx_Note p l e R s m args below meth c H locs cells slots Q (F0 m pc ls rest) "java/lang/ArrayIndexOutOfBoundsException" tx) : W p l e R s m args below meth c H locs cells slots Q (F0 m pc ls (.int i :: .ref a :: rest)) := by
  intro T hT X
  obtain ⟨t, st, q⟩ := k _ rfl T hT X
  refine ⟨t, ?_, q⟩
  have h1 := X.baloadOut hexec (by rw [hT]; exact hP q0 _ ha) ((hK.2 t0 _ ht).1 n (fun j => .int (f j))) (j := i) (by show (i < 0 ∨ (arrV _ _ _).slots.size ≤ _); rw [arrV_size]; exact Classical.byContradiction hout) (g := F0 m pc ls (.int i :: .ref a :: rest)) rfl (rest := rest) rfl (by rw [hb]; exact hdg) t
  simp only [arrV_size] at h1
  exact h1 st
theorem vx_bastZ {D : va_G} {cl : List vw_C} {ws : va_W} {tys : List (ClassId × FieldType)} {a : Nat} (hexec : p.tables.exec = Jvm.exec) (hb : c.code = cc) (hK : va_K D cl tys s) (hP : va_P D cl ws H) (q0 t0 : Nat) {cA : ClassId} {n : Nat} {f : Nat → Int32} (ha : ws[q0]? = some (a, .inl (cA, n, .inl f))) (ht : tys[t0]? = some (cA, .byte)) {i : Int32} {x : Int32} (hout : ¬ vp_in i n) (hdg : decode cc pc = .ok (.bastore, 1))
    (k : ∀ tx : String, tx = (toString "Index " ++ toString i ++ toString " out of bounds for length " ++ toString n : String) → vx_Note p l e R s m args below meth c H locs cells slots Q (F0 m pc ls rest) "java/lang/ArrayIndexOutOfBoundsException" tx) : W p l e R s m args below meth c H locs cells slots Q (F0 m pc ls (.int x :: .int i :: .ref a :: rest)) := by
  intro T hT X
  obtain ⟨t, st, q⟩ := k _ rfl T hT X
  refine ⟨t, ?_, q⟩
  have h1 := X.bastoreOut hexec (by rw [hT]; exact hP q0 _ ha) ((hK.2 t0 _ ht).1 n (fun j => .int (f j))) (j := i) (by show (i < 0 ∨ (arrV _ _ _).slots.size ≤ _); rw [arrV_size]; exact Classical.byContradiction hout) (g := F0 m pc ls (.int x :: .int i :: .ref a :: rest)) rfl (rest := rest) rfl (by rw [hb]; exact hdg) t
  simp only [arrV_size] at h1
  exact h1 st
theorem vx_zaldZ {D : va_G} {cl : List vw_C} {ws : va_W} {tys : List (ClassId × FieldType)} {a : Nat} (hexec : p.tables.exec = Jvm.exec) (hb : c.code = cc) (hK : va_K D cl tys s) (hP : va_P D cl ws H) (q0 t0 : Nat) {cA : ClassId} {n : Nat} {f : Nat → Int32} (ha : ws[q0]? = some (a, .inl (cA, n, .inl f))) (ht : tys[t0]? = some (cA, .boolean)) {i : Int32} (hout : ¬ vp_in i n) (hdg : decode cc pc = .ok (.baload, 1))
    (k : ∀ tx : String, tx = (toString "Index " ++ toString i ++ toString " out of bounds for length " ++ toString n : String) → vx_Note p l e R s m args below meth c H locs cells slots Q (F0 m pc ls rest) "java/lang/ArrayIndexOutOfBoundsException" tx) : W p l e R s m args below meth c H locs cells slots Q (F0 m pc ls (.int i :: .ref a :: rest)) := by
  intro T hT X
  obtain ⟨t, st, q⟩ := k _ rfl T hT X
  refine ⟨t, ?_, q⟩
  have h1 := X.baloadOut hexec (by rw [hT]; exact hP q0 _ ha) ((hK.2 t0 _ ht).1 n (fun j => .int (f j))) (j := i) (by show (i < 0 ∨ (arrV _ _ _).slots.size ≤ _); rw [arrV_size]; exact Classical.byContradiction hout) (g := F0 m pc ls (.int i :: .ref a :: rest)) rfl (rest := rest) rfl (by rw [hb]; exact hdg) t
  simp only [arrV_size] at h1
  exact h1 st
theorem vx_zastZ {D : va_G} {cl : List vw_C} {ws : va_W} {tys : List (ClassId × FieldType)} {a : Nat} (hexec : p.tables.exec = Jvm.exec) (hb : c.code = cc) (hK : va_K D cl tys s) (hP : va_P D cl ws H) (q0 t0 : Nat) {cA : ClassId} {n : Nat} {f : Nat → Int32} (ha : ws[q0]? = some (a, .inl (cA, n, .inl f))) (ht : tys[t0]? = some (cA, .boolean)) {i : Int32} {x : Int32} (hout : ¬ vp_in i n) (hdg : decode cc pc = .ok (.bastore, 1))
    (k : ∀ tx : String, tx = (toString "Index " ++ toString i ++ toString " out of bounds for length " ++ toString n : String) → vx_Note p l e R s m args below meth c H locs cells slots Q (F0 m pc ls rest) "java/lang/ArrayIndexOutOfBoundsException" tx) : W p l e R s m args below meth c H locs cells slots Q (F0 m pc ls (.int x :: .int i :: .ref a :: rest)) := by
  intro T hT X
  obtain ⟨t, st, q⟩ := k _ rfl T hT X
  refine ⟨t, ?_, q⟩
  have h1 := X.bastoreOut hexec (by rw [hT]; exact hP q0 _ ha) ((hK.2 t0 _ ht).1 n (fun j => .int (f j))) (j := i) (by show (i < 0 ∨ (arrV _ _ _).slots.size ≤ _); rw [arrV_size]; exact Classical.byContradiction hout) (g := F0 m pc ls (.int x :: .int i :: .ref a :: rest)) rfl (rest := rest) rfl (by rw [hb]; exact hdg) t
  simp only [arrV_size] at h1
  exact h1 st
theorem vx_caldZ {D : va_G} {cl : List vw_C} {ws : va_W} {tys : List (ClassId × FieldType)} {a : Nat} (hexec : p.tables.exec = Jvm.exec) (hb : c.code = cc) (hK : va_K D cl tys s) (hP : va_P D cl ws H) (q0 t0 : Nat) {cA : ClassId} {n : Nat} {f : Nat → Int32} (ha : ws[q0]? = some (a, .inl (cA, n, .inl f))) (ht : tys[t0]? = some (cA, .char)) {i : Int32} (hout : ¬ vp_in i n) (hdg : decode cc pc = .ok (.caload, 1))
    (k : ∀ tx : String, tx = (toString "Index " ++ toString i ++ toString " out of bounds for length " ++ toString n : String) → vx_Note p l e R s m args below meth c H locs cells slots Q (F0 m pc ls rest) "java/lang/ArrayIndexOutOfBoundsException" tx) : W p l e R s m args below meth c H locs cells slots Q (F0 m pc ls (.int i :: .ref a :: rest)) := by
  intro T hT X
  obtain ⟨t, st, q⟩ := k _ rfl T hT X
  refine ⟨t, ?_, q⟩
  have h1 := X.caloadOut hexec (by rw [hT]; exact hP q0 _ ha) ((hK.2 t0 _ ht).1 n (fun j => .int (f j))) (j := i) (by show (i < 0 ∨ (arrV _ _ _).slots.size ≤ _); rw [arrV_size]; exact Classical.byContradiction hout) (g := F0 m pc ls (.int i :: .ref a :: rest)) rfl (rest := rest) rfl (by rw [hb]; exact hdg) t
  simp only [arrV_size] at h1
  exact h1 st
theorem vx_castZ {D : va_G} {cl : List vw_C} {ws : va_W} {tys : List (ClassId × FieldType)} {a : Nat} (hexec : p.tables.exec = Jvm.exec) (hb : c.code = cc) (hK : va_K D cl tys s) (hP : va_P D cl ws H) (q0 t0 : Nat) {cA : ClassId} {n : Nat} {f : Nat → Int32} (ha : ws[q0]? = some (a, .inl (cA, n, .inl f))) (ht : tys[t0]? = some (cA, .char)) {i : Int32} {x : Int32} (hout : ¬ vp_in i n) (hdg : decode cc pc = .ok (.castore, 1))
    (k : ∀ tx : String, tx = (toString "Index " ++ toString i ++ toString " out of bounds for length " ++ toString n : String) → vx_Note p l e R s m args below meth c H locs cells slots Q (F0 m pc ls rest) "java/lang/ArrayIndexOutOfBoundsException" tx) : W p l e R s m args below meth c H locs cells slots Q (F0 m pc ls (.int x :: .int i :: .ref a :: rest)) := by
  intro T hT X
  obtain ⟨t, st, q⟩ := k _ rfl T hT X
  refine ⟨t, ?_, q⟩
  have h1 := X.castoreOut hexec (by rw [hT]; exact hP q0 _ ha) ((hK.2 t0 _ ht).1 n (fun j => .int (f j))) (j := i) (by show (i < 0 ∨ (arrV _ _ _).slots.size ≤ _); rw [arrV_size]; exact Classical.byContradiction hout) (g := F0 m pc ls (.int x :: .int i :: .ref a :: rest)) rfl (rest := rest) rfl (by rw [hb]; exact hdg) t
  simp only [arrV_size] at h1
  exact h1 st
theorem vx_saldZ {D : va_G} {cl : List vw_C} {ws : va_W} {tys : List (ClassId × FieldType)} {a : Nat} (hexec : p.tables.exec = Jvm.exec) (hb : c.code = cc) (hK : va_K D cl tys s) (hP : va_P D cl ws H) (q0 t0 : Nat) {cA : ClassId} {n : Nat} {f : Nat → Int32} (ha : ws[q0]? = some (a, .inl (cA, n, .inl f))) (ht : tys[t0]? = some (cA, .short)) {i : Int32} (hout : ¬ vp_in i n) (hdg : decode cc pc = .ok (.saload, 1))
    (k : ∀ tx : String, tx = (toString "Index " ++ toString i ++ toString " out of bounds for length " ++ toString n : String) → vx_Note p l e R s m args below meth c H locs cells slots Q (F0 m pc ls rest) "java/lang/ArrayIndexOutOfBoundsException" tx) : W p l e R s m args below meth c H locs cells slots Q (F0 m pc ls (.int i :: .ref a :: rest)) := by
  intro T hT X
  obtain ⟨t, st, q⟩ := k _ rfl T hT X
  refine ⟨t, ?_, q⟩
  have h1 := X.saloadOut hexec (by rw [hT]; exact hP q0 _ ha) ((hK.2 t0 _ ht).1 n (fun j => .int (f j))) (j := i) (by show (i < 0 ∨ (arrV _ _ _).slots.size ≤ _); rw [arrV_size]; exact Classical.byContradiction hout) (g := F0 m pc ls (.int i :: .ref a :: rest)) rfl (rest := rest) rfl (by rw [hb]; exact hdg) t
  simp only [arrV_size] at h1
  exact h1 st
theorem vx_sastZ {D : va_G} {cl : List vw_C} {ws : va_W} {tys : List (ClassId × FieldType)} {a : Nat} (hexec : p.tables.exec = Jvm.exec) (hb : c.code = cc) (hK : va_K D cl tys s) (hP : va_P D cl ws H) (q0 t0 : Nat) {cA : ClassId} {n : Nat} {f : Nat → Int32} (ha : ws[q0]? = some (a, .inl (cA, n, .inl f))) (ht : tys[t0]? = some (cA, .short)) {i : Int32} {x : Int32} (hout : ¬ vp_in i n) (hdg : decode cc pc = .ok (.sastore, 1))
    (k : ∀ tx : String, tx = (toString "Index " ++ toString i ++ toString " out of bounds for length " ++ toString n : String) → vx_Note p l e R s m args below meth c H locs cells slots Q (F0 m pc ls rest) "java/lang/ArrayIndexOutOfBoundsException" tx) : W p l e R s m args below meth c H locs cells slots Q (F0 m pc ls (.int x :: .int i :: .ref a :: rest)) := by
  intro T hT X
  obtain ⟨t, st, q⟩ := k _ rfl T hT X
  refine ⟨t, ?_, q⟩
  have h1 := X.sastoreOut hexec (by rw [hT]; exact hP q0 _ ha) ((hK.2 t0 _ ht).1 n (fun j => .int (f j))) (j := i) (by show (i < 0 ∨ (arrV _ _ _).slots.size ≤ _); rw [arrV_size]; exact Classical.byContradiction hout) (g := F0 m pc ls (.int x :: .int i :: .ref a :: rest)) rfl (rest := rest) rfl (by rw [hb]; exact hdg) t
  simp only [arrV_size] at h1
  exact h1 st
theorem vx_laldZ {D : va_G} {cl : List vw_C} {ws : va_W} {tys : List (ClassId × FieldType)} {a : Nat} (hexec : p.tables.exec = Jvm.exec) (hb : c.code = cc) (hK : va_K D cl tys s) (hP : va_P D cl ws H) (q0 t0 : Nat) {cA : ClassId} {n : Nat} {f : Nat → Int64} (ha : ws[q0]? = some (a, .inl (cA, n, .inr (.inl f)))) (ht : tys[t0]? = some (cA, .long)) {i : Int32} (hout : ¬ vp_in i n) (hdg : decode cc pc = .ok (.laload, 1))
    (k : ∀ tx : String, tx = (toString "Index " ++ toString i ++ toString " out of bounds for length " ++ toString n : String) → vx_Note p l e R s m args below meth c H locs cells slots Q (F0 m pc ls rest) "java/lang/ArrayIndexOutOfBoundsException" tx) : W p l e R s m args below meth c H locs cells slots Q (F0 m pc ls (.int i :: .ref a :: rest)) := by
  intro T hT X
  obtain ⟨t, st, q⟩ := k _ rfl T hT X
  refine ⟨t, ?_, q⟩
  have h1 := X.laloadOut hexec (by rw [hT]; exact hP q0 _ ha) ((hK.2 t0 _ ht).1 n (fun j => .long (f j))) (j := i) (by show (i < 0 ∨ (arrV _ _ _).slots.size ≤ _); rw [arrV_size]; exact Classical.byContradiction hout) (g := F0 m pc ls (.int i :: .ref a :: rest)) rfl (rest := rest) rfl (by rw [hb]; exact hdg) t
  simp only [arrV_size] at h1
  exact h1 st
theorem vx_lastZ {D : va_G} {cl : List vw_C} {ws : va_W} {tys : List (ClassId × FieldType)} {a : Nat} (hexec : p.tables.exec = Jvm.exec) (hb : c.code = cc) (hK : va_K D cl tys s) (hP : va_P D cl ws H) (q0 t0 : Nat) {cA : ClassId} {n : Nat} {f : Nat → Int64} (ha : ws[q0]? = some (a, .inl (cA, n, .inr (.inl f)))) (ht : tys[t0]? = some (cA, .long)) {i : Int32} {x : Int64} (hout : ¬ vp_in i n) (hdg : decode cc pc = .ok (.lastore, 1))
    (k : ∀ tx : String, tx = (toString "Index " ++ toString i ++ toString " out of bounds for length " ++ toString n : String) → vx_Note p l e R s m args below meth c H locs cells slots Q (F0 m pc ls rest) "java/lang/ArrayIndexOutOfBoundsException" tx) : W p l e R s m args below meth c H locs cells slots Q (F0 m pc ls (.long x :: .int i :: .ref a :: rest)) := by
  intro T hT X
  obtain ⟨t, st, q⟩ := k _ rfl T hT X
  refine ⟨t, ?_, q⟩
  have h1 := X.lastoreOut hexec (by rw [hT]; exact hP q0 _ ha) ((hK.2 t0 _ ht).1 n (fun j => .long (f j))) (j := i) (by show (i < 0 ∨ (arrV _ _ _).slots.size ≤ _); rw [arrV_size]; exact Classical.byContradiction hout) (g := F0 m pc ls (.long x :: .int i :: .ref a :: rest)) rfl (rest := rest) rfl (by rw [hb]; exact hdg) t
  simp only [arrV_size] at h1
  exact h1 st
theorem vx_faldZ {D : va_G} {cl : List vw_C} {ws : va_W} {tys : List (ClassId × FieldType)} {a : Nat} (hexec : p.tables.exec = Jvm.exec) (hb : c.code = cc) (hK : va_K D cl tys s) (hP : va_P D cl ws H) (q0 t0 : Nat) {cA : ClassId} {n : Nat} {f : Nat → UInt32} (ha : ws[q0]? = some (a, .inl (cA, n, .inr (.inr (.inl f))))) (ht : tys[t0]? = some (cA, .float)) {i : Int32} (hout : ¬ vp_in i n) (hdg : decode cc pc = .ok (.faload, 1))
    (k : ∀ tx : String, tx = (toString "Index " ++ toString i ++ toString " out of bounds for length " ++ toString n : String) → vx_Note p l e R s m args below meth c H locs cells slots Q (F0 m pc ls rest) "java/lang/ArrayIndexOutOfBoundsException" tx) : W p l e R s m args below meth c H locs cells slots Q (F0 m pc ls (.int i :: .ref a :: rest)) := by
  intro T hT X
  obtain ⟨t, st, q⟩ := k _ rfl T hT X
  refine ⟨t, ?_, q⟩
  have h1 := X.faloadOut hexec (by rw [hT]; exact hP q0 _ ha) ((hK.2 t0 _ ht).1 n (fun j => .float (f j))) (j := i) (by show (i < 0 ∨ (arrV _ _ _).slots.size ≤ _); rw [arrV_size]; exact Classical.byContradiction hout) (g := F0 m pc ls (.int i :: .ref a :: rest)) rfl (rest := rest) rfl (by rw [hb]; exact hdg) t
  simp only [arrV_size] at h1
  exact h1 st
theorem vx_fastZ {D : va_G} {cl : List vw_C} {ws : va_W} {tys : List (ClassId × FieldType)} {a : Nat} (hexec : p.tables.exec = Jvm.exec) (hb : c.code = cc) (hK : va_K D cl tys s) (hP : va_P D cl ws H) (q0 t0 : Nat) {cA : ClassId} {n : Nat} {f : Nat → UInt32} (ha : ws[q0]? = some (a, .inl (cA, n, .inr (.inr (.inl f))))) (ht : tys[t0]? = some (cA, .float)) {i : Int32} {x : UInt32} (hout : ¬ vp_in i n) (hdg : decode cc pc = .ok (.fastore, 1))
    (k : ∀ tx : String, tx = (toString "Index " ++ toString i ++ toString " out of bounds for length " ++ toString n : String) → vx_Note p l e R s m args below meth c H locs cells slots Q (F0 m pc ls rest) "java/lang/ArrayIndexOutOfBoundsException" tx) : W p l e R s m args below meth c H locs cells slots Q (F0 m pc ls (.float x :: .int i :: .ref a :: rest)) := by
  intro T hT X
  obtain ⟨t, st, q⟩ := k _ rfl T hT X
  refine ⟨t, ?_, q⟩
  have h1 := X.fastoreOut hexec (by rw [hT]; exact hP q0 _ ha) ((hK.2 t0 _ ht).1 n (fun j => .float (f j))) (j := i) (by show (i < 0 ∨ (arrV _ _ _).slots.size ≤ _); rw [arrV_size]; exact Classical.byContradiction hout) (g := F0 m pc ls (.float x :: .int i :: .ref a :: rest)) rfl (rest := rest) rfl (by rw [hb]; exact hdg) t
  simp only [arrV_size] at h1
  exact h1 st
theorem vx_daldZ {D : va_G} {cl : List vw_C} {ws : va_W} {tys : List (ClassId × FieldType)} {a : Nat} (hexec : p.tables.exec = Jvm.exec) (hb : c.code = cc) (hK : va_K D cl tys s) (hP : va_P D cl ws H) (q0 t0 : Nat) {cA : ClassId} {n : Nat} {f : Nat → UInt64} (ha : ws[q0]? = some (a, .inl (cA, n, .inr (.inr (.inr (.inl f)))))) (ht : tys[t0]? = some (cA, .double)) {i : Int32} (hout : ¬ vp_in i n) (hdg : decode cc pc = .ok (.daload, 1))
    (k : ∀ tx : String, tx = (toString "Index " ++ toString i ++ toString " out of bounds for length " ++ toString n : String) → vx_Note p l e R s m args below meth c H locs cells slots Q (F0 m pc ls rest) "java/lang/ArrayIndexOutOfBoundsException" tx) : W p l e R s m args below meth c H locs cells slots Q (F0 m pc ls (.int i :: .ref a :: rest)) := by
  intro T hT X
  obtain ⟨t, st, q⟩ := k _ rfl T hT X
  refine ⟨t, ?_, q⟩
  have h1 := X.daloadOut hexec (by rw [hT]; exact hP q0 _ ha) ((hK.2 t0 _ ht).1 n (fun j => .double (f j))) (j := i) (by show (i < 0 ∨ (arrV _ _ _).slots.size ≤ _); rw [arrV_size]; exact Classical.byContradiction hout) (g := F0 m pc ls (.int i :: .ref a :: rest)) rfl (rest := rest) rfl (by rw [hb]; exact hdg) t
  simp only [arrV_size] at h1
  exact h1 st
theorem vx_dastZ {D : va_G} {cl : List vw_C} {ws : va_W} {tys : List (ClassId × FieldType)} {a : Nat} (hexec : p.tables.exec = Jvm.exec) (hb : c.code = cc) (hK : va_K D cl tys s) (hP : va_P D cl ws H) (q0 t0 : Nat) {cA : ClassId} {n : Nat} {f : Nat → UInt64} (ha : ws[q0]? = some (a, .inl (cA, n, .inr (.inr (.inr (.inl f)))))) (ht : tys[t0]? = some (cA, .double)) {i : Int32} {x : UInt64} (hout : ¬ vp_in i n) (hdg : decode cc pc = .ok (.dastore, 1))
    (k : ∀ tx : String, tx = (toString "Index " ++ toString i ++ toString " out of bounds for length " ++ toString n : String) → vx_Note p l e R s m args below meth c H locs cells slots Q (F0 m pc ls rest) "java/lang/ArrayIndexOutOfBoundsException" tx) : W p l e R s m args below meth c H locs cells slots Q (F0 m pc ls (.double x :: .int i :: .ref a :: rest)) := by
  intro T hT X
  obtain ⟨t, st, q⟩ := k _ rfl T hT X
  refine ⟨t, ?_, q⟩
  have h1 := X.dastoreOut hexec (by rw [hT]; exact hP q0 _ ha) ((hK.2 t0 _ ht).1 n (fun j => .double (f j))) (j := i) (by show (i < 0 ∨ (arrV _ _ _).slots.size ≤ _); rw [arrV_size]; exact Classical.byContradiction hout) (g := F0 m pc ls (.double x :: .int i :: .ref a :: rest)) rfl (rest := rest) rfl (by rw [hb]; exact hdg) t
  simp only [arrV_size] at h1
  exact h1 st
theorem vx_arraylengthN (hexec : p.tables.exec = Jvm.exec) (hb : c.code = cc) (hdg : decode cc pc = .ok (.arraylength, 1)) (k : vx_NoteN p l e R s m args below meth c H locs cells slots Q (F0 m pc ls rest)) : W p l e R s m args below meth c H locs cells slots Q (F0 m pc ls (.null :: rest)) := by
  intro T hT X
  obtain ⟨t, st, q⟩ := k T hT X
  exact ⟨t, X.arraylengthNull hexec (g := F0 m pc ls (.null :: rest)) rfl (rest := rest) rfl (by rw [hb]; exact hdg) t st, q⟩
theorem vx_ialoadN (hexec : p.tables.exec = Jvm.exec) (hb : c.code = cc) {i : Int32} (hdg : decode cc pc = .ok (.iaload, 1)) (k : vx_NoteN p l e R s m args below meth c H locs cells slots Q (F0 m pc ls rest)) : W p l e R s m args below meth c H locs cells slots Q (F0 m pc ls (.int i :: .null :: rest)) := by
  intro T hT X
  obtain ⟨t, st, q⟩ := k T hT X
  exact ⟨t, X.ialoadNull hexec (g := F0 m pc ls (.int i :: .null :: rest)) rfl (rest := rest) rfl (by rw [hb]; exact hdg) t st, q⟩
theorem vx_laloadN (hexec : p.tables.exec = Jvm.exec) (hb : c.code = cc) {i : Int32} (hdg : decode cc pc = .ok (.laload, 1)) (k : vx_NoteN p l e R s m args below meth c H locs cells slots Q (F0 m pc ls rest)) : W p l e R s m args below meth c H locs cells slots Q (F0 m pc ls (.int i :: .null :: rest)) := by
  intro T hT X
  obtain ⟨t, st, q⟩ := k T hT X
  exact ⟨t, X.laloadNull hexec (g := F0 m pc ls (.int i :: .null :: rest)) rfl (rest := rest) rfl (by rw [hb]; exact hdg) t st, q⟩
theorem vx_faloadN (hexec : p.tables.exec = Jvm.exec) (hb : c.code = cc) {i : Int32} (hdg : decode cc pc = .ok (.faload, 1)) (k : vx_NoteN p l e R s m args below meth c H locs cells slots Q (F0 m pc ls rest)) : W p l e R s m args below meth c H locs cells slots Q (F0 m pc ls (.int i :: .null :: rest)) := by
  intro T hT X
  obtain ⟨t, st, q⟩ := k T hT X
  exact ⟨t, X.faloadNull hexec (g := F0 m pc ls (.int i :: .null :: rest)) rfl (rest := rest) rfl (by rw [hb]; exact hdg) t st, q⟩
theorem vx_daloadN (hexec : p.tables.exec = Jvm.exec) (hb : c.code = cc) {i : Int32} (hdg : decode cc pc = .ok (.daload, 1)) (k : vx_NoteN p l e R s m args below meth c H locs cells slots Q (F0 m pc ls rest)) : W p l e R s m args below meth c H locs cells slots Q (F0 m pc ls (.int i :: .null :: rest)) := by
  intro T hT X
  obtain ⟨t, st, q⟩ := k T hT X
  exact ⟨t, X.daloadNull hexec (g := F0 m pc ls (.int i :: .null :: rest)) rfl (rest := rest) rfl (by rw [hb]; exact hdg) t st, q⟩
theorem vx_aaloadN (hexec : p.tables.exec = Jvm.exec) (hb : c.code = cc) {i : Int32} (hdg : decode cc pc = .ok (.aaload, 1)) (k : vx_NoteN p l e R s m args below meth c H locs cells slots Q (F0 m pc ls rest)) : W p l e R s m args below meth c H locs cells slots Q (F0 m pc ls (.int i :: .null :: rest)) := by
  intro T hT X
  obtain ⟨t, st, q⟩ := k T hT X
  exact ⟨t, X.aaloadNull hexec (g := F0 m pc ls (.int i :: .null :: rest)) rfl (rest := rest) rfl (by rw [hb]; exact hdg) t st, q⟩
theorem vx_baloadN (hexec : p.tables.exec = Jvm.exec) (hb : c.code = cc) {i : Int32} (hdg : decode cc pc = .ok (.baload, 1)) (k : vx_NoteN p l e R s m args below meth c H locs cells slots Q (F0 m pc ls rest)) : W p l e R s m args below meth c H locs cells slots Q (F0 m pc ls (.int i :: .null :: rest)) := by
  intro T hT X
  obtain ⟨t, st, q⟩ := k T hT X
  exact ⟨t, X.baloadNull hexec (g := F0 m pc ls (.int i :: .null :: rest)) rfl (rest := rest) rfl (by rw [hb]; exact hdg) t st, q⟩
theorem vx_caloadN (hexec : p.tables.exec = Jvm.exec) (hb : c.code = cc) {i : Int32} (hdg : decode cc pc = .ok (.caload, 1)) (k : vx_NoteN p l e R s m args below meth c H locs cells slots Q (F0 m pc ls rest)) : W p l e R s m args below meth c H locs cells slots Q (F0 m pc ls (.int i :: .null :: rest)) := by
  intro T hT X
  obtain ⟨t, st, q⟩ := k T hT X
  exact ⟨t, X.caloadNull hexec (g := F0 m pc ls (.int i :: .null :: rest)) rfl (rest := rest) rfl (by rw [hb]; exact hdg) t st, q⟩
theorem vx_saloadN (hexec : p.tables.exec = Jvm.exec) (hb : c.code = cc) {i : Int32} (hdg : decode cc pc = .ok (.saload, 1)) (k : vx_NoteN p l e R s m args below meth c H locs cells slots Q (F0 m pc ls rest)) : W p l e R s m args below meth c H locs cells slots Q (F0 m pc ls (.int i :: .null :: rest)) := by
  intro T hT X
  obtain ⟨t, st, q⟩ := k T hT X
  exact ⟨t, X.saloadNull hexec (g := F0 m pc ls (.int i :: .null :: rest)) rfl (rest := rest) rfl (by rw [hb]; exact hdg) t st, q⟩
theorem vx_iastoreN (hexec : p.tables.exec = Jvm.exec) (hb : c.code = cc) {x : Int32} {i : Int32} (hdg : decode cc pc = .ok (.iastore, 1)) (k : vx_NoteN p l e R s m args below meth c H locs cells slots Q (F0 m pc ls rest)) : W p l e R s m args below meth c H locs cells slots Q (F0 m pc ls (.int x :: .int i :: .null :: rest)) := by
  intro T hT X
  obtain ⟨t, st, q⟩ := k T hT X
  exact ⟨t, X.iastoreNull hexec (g := F0 m pc ls (.int x :: .int i :: .null :: rest)) rfl (rest := rest) rfl (by rw [hb]; exact hdg) t st, q⟩
theorem vx_lastoreN (hexec : p.tables.exec = Jvm.exec) (hb : c.code = cc) {x : Int64} {i : Int32} (hdg : decode cc pc = .ok (.lastore, 1)) (k : vx_NoteN p l e R s m args below meth c H locs cells slots Q (F0 m pc ls rest)) : W p l e R s m args below meth c H locs cells slots Q (F0 m pc ls (.long x :: .int i :: .null :: rest)) := by
  intro T hT X
  obtain ⟨t, st, q⟩ := k T hT X
  exact ⟨t, X.lastoreNull hexec (g := F0 m pc ls (.long x :: .int i :: .null :: rest)) rfl (rest := rest) rfl (by rw [hb]; exact hdg) t st, q⟩
theorem vx_fastoreN (hexec : p.tables.exec = Jvm.exec) (hb : c.code = cc) {x : UInt32} {i : Int32} (hdg : decode cc pc = .ok (.fastore, 1)) (k : vx_NoteN p l e R s m args below meth c H locs cells slots Q (F0 m pc ls rest)) : W p l e R s m args below meth c H locs cells slots Q (F0 m pc ls (.float x :: .int i :: .null :: rest)) := by
  intro T hT X
  obtain ⟨t, st, q⟩ := k T hT X
  exact ⟨t, X.fastoreNull hexec (g := F0 m pc ls (.float x :: .int i :: .null :: rest)) rfl (rest := rest) rfl (by rw [hb]; exact hdg) t st, q⟩
theorem vx_dastoreN (hexec : p.tables.exec = Jvm.exec) (hb : c.code = cc) {x : UInt64} {i : Int32} (hdg : decode cc pc = .ok (.dastore, 1)) (k : vx_NoteN p l e R s m args below meth c H locs cells slots Q (F0 m pc ls rest)) : W p l e R s m args below meth c H locs cells slots Q (F0 m pc ls (.double x :: .int i :: .null :: rest)) := by
  intro T hT X
  obtain ⟨t, st, q⟩ := k T hT X
  exact ⟨t, X.dastoreNull hexec (g := F0 m pc ls (.double x :: .int i :: .null :: rest)) rfl (rest := rest) rfl (by rw [hb]; exact hdg) t st, q⟩
theorem vx_bastoreN (hexec : p.tables.exec = Jvm.exec) (hb : c.code = cc) {x : Int32} {i : Int32} (hdg : decode cc pc = .ok (.bastore, 1)) (k : vx_NoteN p l e R s m args below meth c H locs cells slots Q (F0 m pc ls rest)) : W p l e R s m args below meth c H locs cells slots Q (F0 m pc ls (.int x :: .int i :: .null :: rest)) := by
  intro T hT X
  obtain ⟨t, st, q⟩ := k T hT X
  exact ⟨t, X.bastoreNull hexec (g := F0 m pc ls (.int x :: .int i :: .null :: rest)) rfl (rest := rest) rfl (by rw [hb]; exact hdg) t st, q⟩
theorem vx_castoreN (hexec : p.tables.exec = Jvm.exec) (hb : c.code = cc) {x : Int32} {i : Int32} (hdg : decode cc pc = .ok (.castore, 1)) (k : vx_NoteN p l e R s m args below meth c H locs cells slots Q (F0 m pc ls rest)) : W p l e R s m args below meth c H locs cells slots Q (F0 m pc ls (.int x :: .int i :: .null :: rest)) := by
  intro T hT X
  obtain ⟨t, st, q⟩ := k T hT X
  exact ⟨t, X.castoreNull hexec (g := F0 m pc ls (.int x :: .int i :: .null :: rest)) rfl (rest := rest) rfl (by rw [hb]; exact hdg) t st, q⟩
theorem vx_sastoreN (hexec : p.tables.exec = Jvm.exec) (hb : c.code = cc) {x : Int32} {i : Int32} (hdg : decode cc pc = .ok (.sastore, 1)) (k : vx_NoteN p l e R s m args below meth c H locs cells slots Q (F0 m pc ls rest)) : W p l e R s m args below meth c H locs cells slots Q (F0 m pc ls (.int x :: .int i :: .null :: rest)) := by
  intro T hT X
  obtain ⟨t, st, q⟩ := k T hT X
  exact ⟨t, X.sastoreNull hexec (g := F0 m pc ls (.int x :: .int i :: .null :: rest)) rfl (rest := rest) rfl (by rw [hb]; exact hdg) t st, q⟩
theorem vx_invokeN {own C : String} {index maxL : Nat} {y : MethodName} {bytes : ByteArray} {ret : Option FieldType} (hexec : p.tables.exec = Jvm.exec) (hb : c.code = cc) (hown : s.vm.findClass own = some m.cls) (hlink : (Cond.methodLink own index y).before args s = true) (hinst : (Cond.instanceMethod y).before args s = true) (hcode : (Cond.code y bytes maxL ret).before args s = true) (hsel : (Cond.selects C y y).before args s = true)
    (hx : y.cls ≠ "java/lang/invoke/MethodHandle" ∧ y.cls ≠ "java/lang/invoke/VarHandle") {As : List Value} (hlen : (parseMethodDescriptor y.desc).map (fun d => d.parameters.length) = some As.length) (hdg : decode cc pc = .ok (.invokevirtual index, 3))
    (k : vx_NoteN p l e R s m args below meth c H locs cells slots Q (F0 m pc ls rest)) {st0 : List Value} (hst : st0 = As.reverse ++ .null :: rest) : W p l e R s m args below meth c H locs cells slots Q (F0 m pc ls st0) := by
  intro T hT X
  obtain ⟨r0, r, hn, hrm, hstR, hsigR⟩ := va_Decl.of hinst hcode
  obtain ⟨c2, r2, m2, q1, q2, q3, q4, kP, hkP, hkPi⟩ := Cond.selects_spec hsel
  cases hn.symm.trans q3
  have hl9 : As.length = r.sig.parameters.length := by
    rw [hsigR] at hlen
    exact (Option.some.inj hlen).symm
  obtain ⟨vm', X1, st1⟩ := X.invokevirtualNull hexec hown hlink hn hrm hstR hkP hkPi hx (g := F0 m pc ls st0) rfl (argsL := As) (rest := rest) hl9 hst (by rw [hb]; exact hdg)
  obtain ⟨t, st, q⟩ := k (T.setVm vm') hT X1
  exact ⟨t, st1 t st, q⟩
theorem vx_newarrayZ {atype : ArrayType} (hexec : p.tables.exec = Jvm.exec) (hb : c.code = cc) {n : Int32} (h0 : n < 0) (hdg : decode cc pc = .ok (.newarray atype, 2)) (k : ∀ tx : String, tx = toString n → vx_Note p l e R s m args below meth c H locs cells slots Q (F0 m pc ls rest) "java/lang/NegativeArraySizeException" tx) : W p l e R s m args below meth c H locs cells slots Q (F0 m pc ls (.int n :: rest)) := by
  intro T hT X
  obtain ⟨t, st, q⟩ := k _ rfl T hT X
  exact ⟨t, X.newarrayNegative hexec (g := F0 m pc ls (.int n :: rest)) rfl h0 (rest := rest) rfl (by rw [hb]; exact hdg) t st, q⟩
end
end VXM
/-! ===== END ===== -/

/-! the words of an exception whose constructor of a text names its parent's by another place of its pool (NoSuchElementException: 13) -/
def nx_code : ByteArray := ⟨#[0x2a, 0x2b, 0xb7, 0x00, 0x0d, 0xb1]⟩
def nx_chain (X : String) : List String → List Cond
  | [] => Bundle.passSAtoms X Bundle.tN 13 nx_code
  | Y :: r => Bundle.passSAtoms X Y 13 nx_code ++ Bundle.chainSAtoms Y r
def nx_own (own : String) (ic : Nat) (X : String) (names : List String) : List Cond :=
  Bundle.throwableAtoms ++ Bundle.throwableSAtoms ++ nx_chain X names ++
  [.methodLink own ic (Bundle.initS X), .instantiable X 6, .castable X X, .selects X Bundle.tFill0 Bundle.tFill0, .selects X Bundle.tFill Bundle.tFill,
   .lays X Bundle.tN "cause" "Ljava/lang/Throwable;", .lays X Bundle.tN "stackTrace" Bundle.steD, .lays X Bundle.tN "suppressedExceptions" Bundle.listD, .lays X Bundle.tN "detailMessage" "Ljava/lang/String;",
   .isRef (.static Bundle.tN "UNASSIGNED_STACK" Bundle.steD), .isRef (.static Bundle.tN "SUPPRESSED_SENTINEL" Bundle.listD),
   .fieldLink Bundle.tN 198 Bundle.tN "backtrace" "Ljava/lang/Object;", .lays Bundle.tN Bundle.tN "backtrace" "Ljava/lang/Object;", .lays X Bundle.tN "backtrace" "Ljava/lang/Object;"]
def nx_atS (own : String) (ic : Nat) (X : String) (names : List String) : List Cond := (nx_own own ic X names).filter vx_no
end
section
/-! ===== BEGIN printed: names, fields, word lists, decode rows ===== -/
def RX0 : String := "PaperMachine$Contract"
def TX0 : u_T := fun k => match k with
  | 0 => ("PaperMachine$Contract", "limit", "I", false)
  | 1 => ("PaperMachine$Contract", "firstPrice", "I", false)
  | _ => ("PaperMachine$Contract", "secondPrice", "I", false)
def tyX0 : Nat → FieldType := fun k => match k with
  | 0 => .int
  | 1 => .int
  | _ => .int
abbrev wsX00 : List Cond := u_ws RX0 TX0 3
theorem nmX0 : ∀ a, a < 3 → ∀ b, b < 3 → a ≠ b → (TX0 a).2.1 ≠ (TX0 b).2.1 := by decide +kernel
theorem tyX0_ok : ∀ k, k < 3 → parseFieldDescriptor (TX0 k).2.2.1 = some (tyX0 k) := by decide +kernel
abbrev cX0_init : ByteArray := prog_2_method_1_code
def yX0_init : MethodName := ⟨RX0, "<init>", "()V"⟩
abbrev cX0_cost : ByteArray := prog_2_method_2_code
def yX0_cost : MethodName := ⟨RX0, "cost", "(I)J"⟩
def RX1 : String := "PaperMachine$Cutter"
def TX1 : u_T := fun k => match k with
  | 0 => ("PaperMachine$Cutter", "best", "[I", true)
  | 1 => ("PaperMachine$Cutter", "trial", "[I", true)
  | 2 => ("PaperMachine$Cutter", "widths", "[I", true)
  | 3 => ("PaperMachine$Cutter", "mostRolls", "[I", true)
  | 4 => ("PaperMachine$Cutter", "widestFrom", "[I", true)
  | 5 => ("PaperMachine$Cutter", "fewest", "[I", true)
  | 6 => ("PaperMachine$Cutter", "room", "I", false)
  | _ => ("PaperMachine$Cutter", "bestSum", "I", false)
def tyX1 : Nat → FieldType := fun k => match k with
  | 0 => .array .int
  | 1 => .array .int
  | 2 => .array .int
  | 3 => .array .int
  | 4 => .array .int
  | 5 => .array .int
  | 6 => .int
  | _ => .int
abbrev wsX10 : List Cond := u_ws RX1 TX1 8
theorem nmX1 : ∀ a, a < 8 → ∀ b, b < 8 → a ≠ b → (TX1 a).2.1 ≠ (TX1 b).2.1 := by decide +kernel
theorem tyX1_ok : ∀ k, k < 8 → parseFieldDescriptor (TX1 k).2.2.1 = some (tyX1 k) := by decide +kernel
abbrev cX1_init : ByteArray := prog_3_method_1_code
def yX1_init : MethodName := ⟨RX1, "<init>", "()V"⟩
abbrev cX1_load : ByteArray := prog_3_method_2_code
def yX1_load : MethodName := ⟨RX1, "load", "(LPaperMachine$OrderBook;II)V"⟩
abbrev cX1_sumBySearch : ByteArray := prog_3_method_3_code
def yX1_sumBySearch : MethodName := ⟨RX1, "sumBySearch", "()I"⟩
abbrev cX1_search : ByteArray := prog_3_method_4_code
def yX1_search : MethodName := ⟨RX1, "search", "(LPaperMachine$Cutter;III)V"⟩
abbrev cX1_keepIfGreater : ByteArray := prog_3_method_5_code
def yX1_keepIfGreater : MethodName := ⟨RX1, "keepIfGreater", "(I)V"⟩
abbrev cX1_sumByTable : ByteArray := prog_3_method_6_code
def yX1_sumByTable : MethodName := ⟨RX1, "sumByTable", "()I"⟩
abbrev cX1_addRollToTable : ByteArray := prog_3_method_7_code
def yX1_addRollToTable : MethodName := ⟨RX1, "addRollToTable", "(I)V"⟩
def RX2 : String := "PaperMachine$HourBook"
def TX2 : u_T := fun k => match k with
  | 0 => ("PaperMachine$HourBook", "kinds", "[C", true)
  | 1 => ("PaperMachine$HourBook", "freshIn", "[I", true)
  | 2 => ("PaperMachine$HourBook", "paperOut", "[I", true)
  | 3 => ("PaperMachine$HourBook", "lossOut", "[I", true)
  | 4 => ("PaperMachine$HourBook", "count", "I", false)
  | 5 => ("PaperMachine$HourBook", "freshSum", "J", false)
  | 6 => ("PaperMachine$HourBook", "paperSum", "J", false)
  | 7 => ("PaperMachine$HourBook", "lossSum", "J", false)
  | 8 => ("PaperMachine$HourBook", "massSum", "J", false)
  | 9 => ("PaperMachine$HourBook", "trimSum", "J", false)
  | _ => ("PaperMachine$HourBook", "paperHours", "I", false)
def tyX2 : Nat → FieldType := fun k => match k with
  | 0 => .array .char
  | 1 => .array .int
  | 2 => .array .int
  | 3 => .array .int
  | 4 => .int
  | 5 => .long
  | 6 => .long
  | 7 => .long
  | 8 => .long
  | 9 => .long
  | _ => .int
abbrev wsX20 : List Cond := u_ws RX2 TX2 11
theorem nmX2 : ∀ a, a < 11 → ∀ b, b < 11 → a ≠ b → (TX2 a).2.1 ≠ (TX2 b).2.1 := by decide +kernel
theorem tyX2_ok : ∀ k, k < 11 → parseFieldDescriptor (TX2 k).2.2.1 = some (tyX2 k) := by decide +kernel
abbrev cX2_init : ByteArray := prog_4_method_1_code
def yX2_init : MethodName := ⟨RX2, "<init>", "()V"⟩
abbrev cX2_has : ByteArray := prog_4_method_2_code
def yX2_has : MethodName := ⟨RX2, "has", "(I)Z"⟩
abbrev cX2_writeNothing : ByteArray := prog_4_method_3_code
def yX2_writeNothing : MethodName := ⟨RX2, "writeNothing", "()V"⟩
abbrev cX2_writeMade : ByteArray := prog_4_method_4_code
def yX2_writeMade : MethodName := ⟨RX2, "writeMade", "(CIII)V"⟩
abbrev cX2_writeTrim : ByteArray := prog_4_method_5_code
def yX2_writeTrim : MethodName := ⟨RX2, "writeTrim", "(I)V"⟩
abbrev cX2_fibreStillThere : ByteArray := prog_4_method_6_code
def yX2_fibreStillThere : MethodName := ⟨RX2, "fibreStillThere", "()I"⟩
def RX3 : String := "PaperMachine$OrderBook"
def TX3 : u_T := fun k => match k with
  | 0 => ("PaperMachine$OrderBook", "grades", "[I", true)
  | 1 => ("PaperMachine$OrderBook", "widths", "[I", true)
  | 2 => ("PaperMachine$OrderBook", "rollsCut", "[I", true)
  | 3 => ("PaperMachine$OrderBook", "lacking", "[I", true)
  | _ => ("PaperMachine$OrderBook", "count", "I", false)
def tyX3 : Nat → FieldType := fun k => match k with
  | 0 => .array .int
  | 1 => .array .int
  | 2 => .array .int
  | 3 => .array .int
  | _ => .int
abbrev wsX30 : List Cond := u_ws RX3 TX3 5
theorem nmX3 : ∀ a, a < 5 → ∀ b, b < 5 → a ≠ b → (TX3 a).2.1 ≠ (TX3 b).2.1 := by decide +kernel
theorem tyX3_ok : ∀ k, k < 5 → parseFieldDescriptor (TX3 k).2.2.1 = some (tyX3 k) := by decide +kernel
abbrev cX3_init : ByteArray := prog_5_method_1_code
def yX3_init : MethodName := ⟨RX3, "<init>", "()V"⟩
abbrev cX3_has : ByteArray := prog_5_method_2_code
def yX3_has : MethodName := ⟨RX3, "has", "(I)Z"⟩
abbrev cX3_isFull : ByteArray := prog_5_method_3_code
def yX3_isFull : MethodName := ⟨RX3, "isFull", "()Z"⟩
abbrev cX3_write : ByteArray := prog_5_method_4_code
def yX3_write : MethodName := ⟨RX3, "write", "(III)I"⟩
abbrev cX3_widestOpen : ByteArray := prog_5_method_5_code
def yX3_widestOpen : MethodName := ⟨RX3, "widestOpen", "()I"⟩
abbrev cX3_rollsLacking : ByteArray := prog_5_method_6_code
def yX3_rollsLacking : MethodName := ⟨RX3, "rollsLacking", "(I)I"⟩
abbrev cX3_widthLacking : ByteArray := prog_5_method_7_code
def yX3_widthLacking : MethodName := ⟨RX3, "widthLacking", "(I)I"⟩
abbrev cX3_takeOff : ByteArray := prog_5_method_8_code
def yX3_takeOff : MethodName := ⟨RX3, "takeOff", "([I)I"⟩
def RX4 : String := "PaperMachine"
def TX4 : u_T := fun k => match k with
  | 0 => ("PaperMachine", "weights", "[I", true)
  | 1 => ("PaperMachine", "gradeCount", "I", false)
  | 2 => ("PaperMachine", "machineWidth", "I", false)
  | 3 => ("PaperMachine", "machineGrade", "I", false)
  | 4 => ("PaperMachine", "changeHours", "I", false)
  | 5 => ("PaperMachine", "upward", "Z", false)
  | 6 => ("PaperMachine", "orderBook", "LPaperMachine$OrderBook;", true)
  | 7 => ("PaperMachine", "cutter", "LPaperMachine$Cutter;", true)
  | 8 => ("PaperMachine", "contract", "LPaperMachine$Contract;", true)
  | 9 => ("PaperMachine", "hourBook", "LPaperMachine$HourBook;", true)
  | 10 => ("PaperMachine", "share", "I", false)
  | 11 => ("PaperMachine", "brokeKept", "I", false)
  | _ => ("PaperMachine", "steamSum", "J", false)
def tyX4 : Nat → FieldType := fun k => match k with
  | 0 => .array .int
  | 1 => .int
  | 2 => .int
  | 3 => .int
  | 4 => .int
  | 5 => .boolean
  | 6 => .object "PaperMachine$OrderBook"
  | 7 => .object "PaperMachine$Cutter"
  | 8 => .object "PaperMachine$Contract"
  | 9 => .object "PaperMachine$HourBook"
  | 10 => .int
  | 11 => .int
  | _ => .long
abbrev wsX40 : List Cond := u_ws RX4 TX4 13
theorem nmX4 : ∀ a, a < 13 → ∀ b, b < 13 → a ≠ b → (TX4 a).2.1 ≠ (TX4 b).2.1 := by decide +kernel
theorem tyX4_ok : ∀ k, k < 13 → parseFieldDescriptor (TX4 k).2.2.1 = some (tyX4 k) := by decide +kernel
abbrev cX4_init : ByteArray := prog_1_method_1_code
def yX4_init : MethodName := ⟨RX4, "<init>", "()V"⟩
abbrev cX4_addGrade : ByteArray := prog_1_method_2_code
def yX4_addGrade : MethodName := ⟨RX4, "addGrade", "(I)I"⟩
abbrev cX4_setWidth : ByteArray := prog_1_method_3_code
def yX4_setWidth : MethodName := ⟨RX4, "setWidth", "(I)I"⟩
abbrev cX4_change : ByteArray := prog_1_method_4_code
def yX4_change : MethodName := ⟨RX4, "change", "(I)I"⟩
abbrev cX4_grade : ByteArray := prog_1_method_5_code
def yX4_grade : MethodName := ⟨RX4, "grade", "()I"⟩
abbrev cX4_changing : ByteArray := prog_1_method_6_code
def yX4_changing : MethodName := ⟨RX4, "changing", "()I"⟩
abbrev cX4_next : ByteArray := prog_1_method_7_code
def yX4_next : MethodName := ⟨RX4, "next", "()I"⟩
abbrev cX4_mass : ByteArray := prog_1_method_8_code
def yX4_mass : MethodName := ⟨RX4, "mass", "(I)I"⟩
abbrev cX4_order : ByteArray := prog_1_method_9_code
def yX4_order : MethodName := ⟨RX4, "order", "(III)I"⟩
abbrev cX4_cancel : ByteArray := prog_1_method_10_code
def yX4_cancel : MethodName := ⟨RX4, "cancel", "(I)I"⟩
abbrev cX4_cut : ByteArray := prog_1_method_11_code
def yX4_cut : MethodName := ⟨RX4, "cut", "(I)I"⟩
abbrev cX4_lacks : ByteArray := prog_1_method_12_code
def yX4_lacks : MethodName := ⟨RX4, "lacks", "(I)I"⟩
abbrev cX4_trim : ByteArray := prog_1_method_13_code
def yX4_trim : MethodName := ⟨RX4, "trim", "(I)I"⟩
abbrev cX4_trimByTable : ByteArray := prog_1_method_14_code
def yX4_trimByTable : MethodName := ⟨RX4, "trimByTable", "(I)I"⟩
abbrev cX4_inCut : ByteArray := prog_1_method_15_code
def yX4_inCut : MethodName := ⟨RX4, "inCut", "(I)I"⟩
abbrev cX4_leastHours : ByteArray := prog_1_method_16_code
def yX4_leastHours : MethodName := ⟨RX4, "leastHours", "(I)I"⟩
abbrev cX4_setShare : ByteArray := prog_1_method_17_code
def yX4_setShare : MethodName := ⟨RX4, "setShare", "(I)I"⟩
abbrev cX4_setContract : ByteArray := prog_1_method_18_code
def yX4_setContract : MethodName := ⟨RX4, "setContract", "(III)I"⟩
abbrev cX4_pass : ByteArray := prog_1_method_19_code
def yX4_pass : MethodName := ⟨RX4, "pass", "(I)I"⟩
abbrev cX4_hours : ByteArray := prog_1_method_20_code
def yX4_hours : MethodName := ⟨RX4, "hours", "()I"⟩
abbrev cX4_broke : ByteArray := prog_1_method_21_code
def yX4_broke : MethodName := ⟨RX4, "broke", "()I"⟩
abbrev cX4_brokeByHours : ByteArray := prog_1_method_22_code
def yX4_brokeByHours : MethodName := ⟨RX4, "brokeByHours", "()I"⟩
abbrev cX4_fresh : ByteArray := prog_1_method_23_code
def yX4_fresh : MethodName := ⟨RX4, "fresh", "()J"⟩
abbrev cX4_paper : ByteArray := prog_1_method_24_code
def yX4_paper : MethodName := ⟨RX4, "paper", "()J"⟩
abbrev cX4_lost : ByteArray := prog_1_method_25_code
def yX4_lost : MethodName := ⟨RX4, "lost", "()J"⟩
abbrev cX4_made : ByteArray := prog_1_method_26_code
def yX4_made : MethodName := ⟨RX4, "made", "(I)C"⟩
abbrev cX4_steamCost : ByteArray := prog_1_method_27_code
def yX4_steamCost : MethodName := ⟨RX4, "steamCost", "()J"⟩
abbrev cX4_paperShare : ByteArray := prog_1_method_28_code
def yX4_paperShare : MethodName := ⟨RX4, "paperShare", "()F"⟩
abbrev cX4_meanTrim : ByteArray := prog_1_method_29_code
def yX4_meanTrim : MethodName := ⟨RX4, "meanTrim", "()D"⟩
abbrev cX4_isGrade : ByteArray := prog_1_method_30_code
def yX4_isGrade : MethodName := ⟨RX4, "isGrade", "(I)Z"⟩
abbrev cX4_isWeightTaken : ByteArray := prog_1_method_31_code
def yX4_isWeightTaken : MethodName := ⟨RX4, "isWeightTaken", "(I)Z"⟩
abbrev cX4_massOfAnHour : ByteArray := prog_1_method_32_code
def yX4_massOfAnHour : MethodName := ⟨RX4, "massOfAnHour", "(I)I"⟩
abbrev cX4_nearestWaiting : ByteArray := prog_1_method_33_code
def yX4_nearestWaiting : MethodName := ⟨RX4, "nearestWaiting", "(IZ)I"⟩
abbrev cX4_passAnHour : ByteArray := prog_1_method_34_code
def yX4_passAnHour : MethodName := ⟨RX4, "passAnHour", "()I"⟩
abbrev cX4_make : ByteArray := prog_1_method_35_code
def yX4_make : MethodName := ⟨RX4, "make", "(CII)V"⟩
abbrev cX4_isWithin : ByteArray := prog_1_method_36_code
def yX4_isWithin : MethodName := ⟨RX4, "isWithin", "(III)Z"⟩
abbrev cX4_quotient : ByteArray := prog_1_method_37_code
def yX4_quotient : MethodName := ⟨RX4, "quotient", "(II)I"⟩
abbrev cX4_quotientUp : ByteArray := prog_1_method_38_code
def yX4_quotientUp : MethodName := ⟨RX4, "quotientUp", "(II)I"⟩
def RX5 : String := "PaperMachineModel"
def TX5 : u_T := fun k => match k with
  | 0 => ("PaperMachineModel", "thrown", "I", false)
  | 1 => ("PaperMachineModel", "grades", "I", false)
  | 2 => ("PaperMachineModel", "weight", "[I", true)
  | 3 => ("PaperMachineModel", "width", "I", false)
  | 4 => ("PaperMachineModel", "grade", "I", false)
  | 5 => ("PaperMachineModel", "isUp", "Z", false)
  | 6 => ("PaperMachineModel", "changing", "I", false)
  | 7 => ("PaperMachineModel", "orders", "I", false)
  | 8 => ("PaperMachineModel", "orderGrade", "[I", true)
  | 9 => ("PaperMachineModel", "orderWidth", "[I", true)
  | 10 => ("PaperMachineModel", "lacks", "[I", true)
  | 11 => ("PaperMachineModel", "cut", "[I", true)
  | 12 => ("PaperMachineModel", "share", "I", false)
  | 13 => ("PaperMachineModel", "limit", "I", false)
  | 14 => ("PaperMachineModel", "firstPrice", "I", false)
  | 15 => ("PaperMachineModel", "secondPrice", "I", false)
  | 16 => ("PaperMachineModel", "hours", "I", false)
  | 17 => ("PaperMachineModel", "made", "[C", true)
  | 18 => ("PaperMachineModel", "broke", "I", false)
  | 19 => ("PaperMachineModel", "fresh", "J", false)
  | 20 => ("PaperMachineModel", "paper", "J", false)
  | 21 => ("PaperMachineModel", "lost", "J", false)
  | 22 => ("PaperMachineModel", "steam", "J", false)
  | 23 => ("PaperMachineModel", "mass", "J", false)
  | 24 => ("PaperMachineModel", "paperHours", "I", false)
  | 25 => ("PaperMachineModel", "trims", "I", false)
  | 26 => ("PaperMachineModel", "best", "I", false)
  | 27 => ("PaperMachineModel", "trial", "[I", true)
  | _ => ("PaperMachineModel", "inCut", "[I", true)
def tyX5 : Nat → FieldType := fun k => match k with
  | 0 => .int
  | 1 => .int
  | 2 => .array .int
  | 3 => .int
  | 4 => .int
  | 5 => .boolean
  | 6 => .int
  | 7 => .int
  | 8 => .array .int
  | 9 => .array .int
  | 10 => .array .int
  | 11 => .array .int
  | 12 => .int
  | 13 => .int
  | 14 => .int
  | 15 => .int
  | 16 => .int
  | 17 => .array .char
  | 18 => .int
  | 19 => .long
  | 20 => .long
  | 21 => .long
  | 22 => .long
  | 23 => .long
  | 24 => .int
  | 25 => .int
  | 26 => .int
  | 27 => .array .int
  | _ => .array .int
abbrev wsX50 : List Cond := u_ws RX5 TX5 29
theorem nmX5 : ∀ a, a < 29 → ∀ b, b < 29 → a ≠ b → (TX5 a).2.1 ≠ (TX5 b).2.1 := by decide +kernel
theorem tyX5_ok : ∀ k, k < 29 → parseFieldDescriptor (TX5 k).2.2.1 = some (tyX5 k) := by decide +kernel
abbrev cX5_init : ByteArray := prog_7_method_1_code
def yX5_init : MethodName := ⟨RX5, "<init>", "()V"⟩
abbrev cX5_thrown : ByteArray := prog_7_method_2_code
def yX5_thrown : MethodName := ⟨RX5, "thrown", "()I"⟩
abbrev cX5_in : ByteArray := prog_7_method_3_code
def yX5_in : MethodName := ⟨RX5, "in", "(III)Z"⟩
abbrev cX5_goesOn : ByteArray := prog_7_method_4_code
def yX5_goesOn : MethodName := ⟨RX5, "goesOn", "(I)Z"⟩
abbrev cX5_isGrade : ByteArray := prog_7_method_5_code
def yX5_isGrade : MethodName := ⟨RX5, "isGrade", "(I)Z"⟩
abbrev cX5_isOrder : ByteArray := prog_7_method_6_code
def yX5_isOrder : MethodName := ⟨RX5, "isOrder", "(I)Z"⟩
abbrev cX5_hasWeight : ByteArray := prog_7_method_7_code
def yX5_hasWeight : MethodName := ⟨RX5, "hasWeight", "(I)Z"⟩
abbrev cX5_addGrade : ByteArray := prog_7_method_8_code
def yX5_addGrade : MethodName := ⟨RX5, "addGrade", "(I)I"⟩
abbrev cX5_setWidth : ByteArray := prog_7_method_9_code
def yX5_setWidth : MethodName := ⟨RX5, "setWidth", "(I)I"⟩
abbrev cX5_change : ByteArray := prog_7_method_10_code
def yX5_change : MethodName := ⟨RX5, "change", "(I)I"⟩
abbrev cX5_grade : ByteArray := prog_7_method_11_code
def yX5_grade : MethodName := ⟨RX5, "grade", "()I"⟩
abbrev cX5_changing : ByteArray := prog_7_method_12_code
def yX5_changing : MethodName := ⟨RX5, "changing", "()I"⟩
abbrev cX5_hasOrders : ByteArray := prog_7_method_13_code
def yX5_hasOrders : MethodName := ⟨RX5, "hasOrders", "(I)Z"⟩
abbrev cX5_nextFrom : ByteArray := prog_7_method_14_code
def yX5_nextFrom : MethodName := ⟨RX5, "nextFrom", "(IZ)I"⟩
abbrev cX5_next : ByteArray := prog_7_method_15_code
def yX5_next : MethodName := ⟨RX5, "next", "()I"⟩
abbrev cX5_massOf : ByteArray := prog_7_method_16_code
def yX5_massOf : MethodName := ⟨RX5, "massOf", "(I)I"⟩
abbrev cX5_mass : ByteArray := prog_7_method_17_code
def yX5_mass : MethodName := ⟨RX5, "mass", "(I)I"⟩
abbrev cX5_order : ByteArray := prog_7_method_18_code
def yX5_order : MethodName := ⟨RX5, "order", "(III)I"⟩
abbrev cX5_cancel : ByteArray := prog_7_method_19_code
def yX5_cancel : MethodName := ⟨RX5, "cancel", "(I)I"⟩
abbrev cX5_cut : ByteArray := prog_7_method_20_code
def yX5_cut : MethodName := ⟨RX5, "cut", "(I)I"⟩
abbrev cX5_lacks : ByteArray := prog_7_method_21_code
def yX5_lacks : MethodName := ⟨RX5, "lacks", "(I)I"⟩
abbrev cX5_tries : ByteArray := prog_7_method_22_code
def yX5_tries : MethodName := ⟨RX5, "tries", "(IIII)V"⟩
abbrev cX5_looks : ByteArray := prog_7_method_23_code
def yX5_looks : MethodName := ⟨RX5, "looks", "(I)I"⟩
abbrev cX5_trim : ByteArray := prog_7_method_24_code
def yX5_trim : MethodName := ⟨RX5, "trim", "(I)I"⟩
abbrev cX5_trimByTable : ByteArray := prog_7_method_25_code
def yX5_trimByTable : MethodName := ⟨RX5, "trimByTable", "(I)I"⟩
abbrev cX5_inCut : ByteArray := prog_7_method_26_code
def yX5_inCut : MethodName := ⟨RX5, "inCut", "(I)I"⟩
abbrev cX5_leastHours : ByteArray := prog_7_method_27_code
def yX5_leastHours : MethodName := ⟨RX5, "leastHours", "(I)I"⟩
abbrev cX5_setShare : ByteArray := prog_7_method_28_code
def yX5_setShare : MethodName := ⟨RX5, "setShare", "(I)I"⟩
abbrev cX5_setContract : ByteArray := prog_7_method_29_code
def yX5_setContract : MethodName := ⟨RX5, "setContract", "(III)I"⟩
abbrev cX5_makes : ByteArray := prog_7_method_30_code
def yX5_makes : MethodName := ⟨RX5, "makes", "(II)V"⟩
abbrev cX5_cuts : ByteArray := prog_7_method_31_code
def yX5_cuts : MethodName := ⟨RX5, "cuts", "()I"⟩
abbrev cX5_passesOne : ByteArray := prog_7_method_32_code
def yX5_passesOne : MethodName := ⟨RX5, "passesOne", "()I"⟩
abbrev cX5_pass : ByteArray := prog_7_method_33_code
def yX5_pass : MethodName := ⟨RX5, "pass", "(I)I"⟩
abbrev cX5_hours : ByteArray := prog_7_method_34_code
def yX5_hours : MethodName := ⟨RX5, "hours", "()I"⟩
abbrev cX5_broke : ByteArray := prog_7_method_35_code
def yX5_broke : MethodName := ⟨RX5, "broke", "()I"⟩
abbrev cX5_brokeByHours : ByteArray := prog_7_method_36_code
def yX5_brokeByHours : MethodName := ⟨RX5, "brokeByHours", "()I"⟩
abbrev cX5_fresh : ByteArray := prog_7_method_37_code
def yX5_fresh : MethodName := ⟨RX5, "fresh", "()J"⟩
abbrev cX5_paper : ByteArray := prog_7_method_38_code
def yX5_paper : MethodName := ⟨RX5, "paper", "()J"⟩
abbrev cX5_lost : ByteArray := prog_7_method_39_code
def yX5_lost : MethodName := ⟨RX5, "lost", "()J"⟩
abbrev cX5_made : ByteArray := prog_7_method_40_code
def yX5_made : MethodName := ⟨RX5, "made", "(I)C"⟩
abbrev cX5_steamCost : ByteArray := prog_7_method_41_code
def yX5_steamCost : MethodName := ⟨RX5, "steamCost", "()J"⟩
abbrev cX5_paperShare : ByteArray := prog_7_method_42_code
def yX5_paperShare : MethodName := ⟨RX5, "paperShare", "()F"⟩
abbrev cX5_meanTrim : ByteArray := prog_7_method_43_code
def yX5_meanTrim : MethodName := ⟨RX5, "meanTrim", "()D"⟩
def RJx145de : String := "java/io/Serializable"
def TJx145de : u_T := fun k => match k with
  | _ => ("", "", "", false)
def tyJx145de : Nat → FieldType := fun k => match k with
  | _ => .int
abbrev wsJx145de0 : List Cond := u_ws RJx145de TJx145de 0
theorem nmJx145de : ∀ a, a < 0 → ∀ b, b < 0 → a ≠ b → (TJx145de a).2.1 ≠ (TJx145de b).2.1 := by decide +kernel
theorem tyJx145de_ok : ∀ k, k < 0 → parseFieldDescriptor (TJx145de k).2.2.1 = some (tyJx145de k) := by decide +kernel
def RJx00060 : String := "java/lang/ArrayIndexOutOfBoundsException"
def TJx00060 : u_T := fun k => match k with
  | 0 => ("java/lang/Throwable", "backtrace", "Ljava/lang/Object;", false)
  | 1 => ("java/lang/Throwable", "detailMessage", "Ljava/lang/String;", false)
  | 2 => ("java/lang/Throwable", "cause", "Ljava/lang/Throwable;", false)
  | 3 => ("java/lang/Throwable", "stackTrace", "[Ljava/lang/StackTraceElement;", false)
  | 4 => ("java/lang/Throwable", "depth", "I", false)
  | _ => ("java/lang/Throwable", "suppressedExceptions", "Ljava/util/List;", false)
def tyJx00060 : Nat → FieldType := fun k => match k with
  | 0 => .object "java/lang/Object"
  | 1 => .object "java/lang/String"
  | 2 => .object "java/lang/Throwable"
  | 3 => .array (.object "java/lang/StackTraceElement")
  | 4 => .int
  | _ => .object "java/util/List"
abbrev wsJx000600 : List Cond := u_ws RJx00060 TJx00060 6
theorem nmJx00060 : ∀ a, a < 6 → ∀ b, b < 6 → a ≠ b → (TJx00060 a).2.1 ≠ (TJx00060 b).2.1 := by decide +kernel
theorem tyJx00060_ok : ∀ k, k < 6 → parseFieldDescriptor (TJx00060 k).2.2.1 = some (tyJx00060 k) := by decide +kernel
abbrev cJx00060_init_a7421 : ByteArray := prog_10_method_2_code
def yJx00060_init_a7421 : MethodName := ⟨RJx00060, "<init>", "(Ljava/lang/String;)V"⟩
def RJ9 : String := "java/lang/Math"
def TJ9 : u_T := fun k => match k with
  | _ => ("", "", "", false)
def tyJ9 : Nat → FieldType := fun k => match k with
  | _ => .int
abbrev wsJ90 : List Cond := u_ws RJ9 TJ9 0
theorem nmJ9 : ∀ a, a < 0 → ∀ b, b < 0 → a ≠ b → (TJ9 a).2.1 ≠ (TJ9 b).2.1 := by decide +kernel
theorem tyJ9_ok : ∀ k, k < 0 → parseFieldDescriptor (TJ9 k).2.2.1 = some (tyJ9 k) := by decide +kernel
abbrev cJ9_abs_0f7a4 : ByteArray := prog_15_method_59_code
def yJ9_abs_0f7a4 : MethodName := ⟨RJ9, "abs", "(I)I"⟩
abbrev cJ9_max_7cf53 : ByteArray := prog_15_method_65_code
def yJ9_max_7cf53 : MethodName := ⟨RJ9, "max", "(II)I"⟩
abbrev cJ9_min_7cf53 : ByteArray := prog_15_method_69_code
def yJ9_min_7cf53 : MethodName := ⟨RJ9, "min", "(II)I"⟩
def RJ0 : String := "java/lang/String"
def TJ0 : u_T := fun k => match k with
  | 0 => ("java/lang/String", "value", "[B", true)
  | _ => ("java/lang/String", "coder", "B", true)
def tyJ0 : Nat → FieldType := fun k => match k with
  | 0 => .array .byte
  | _ => .byte
abbrev wsJ00 : List Cond := u_ws RJ0 TJ0 2
theorem nmJ0 : ∀ a, a < 2 → ∀ b, b < 2 → a ≠ b → (TJ0 a).2.1 ≠ (TJ0 b).2.1 := by decide +kernel
theorem tyJ0_ok : ∀ k, k < 2 → parseFieldDescriptor (TJ0 k).2.2.1 = some (tyJ0 k) := by decide +kernel
def RJ10 : String := "java/lang/System"
def TJ10 : u_T := fun k => match k with
  | _ => ("", "", "", false)
def tyJ10 : Nat → FieldType := fun k => match k with
  | _ => .int
abbrev wsJ100 : List Cond := u_ws RJ10 TJ10 0
theorem nmJ10 : ∀ a, a < 0 → ∀ b, b < 0 → a ≠ b → (TJ10 a).2.1 ≠ (TJ10 b).2.1 := by decide +kernel
theorem tyJ10_ok : ∀ k, k < 0 → parseFieldDescriptor (TJ10 k).2.2.1 = some (tyJ10 k) := by decide +kernel
def RJ7 : String := "java/util/Arrays"
def TJ7 : u_T := fun k => match k with
  | _ => ("", "", "", false)
def tyJ7 : Nat → FieldType := fun k => match k with
  | _ => .int
abbrev wsJ70 : List Cond := u_ws RJ7 TJ7 0
theorem nmJ7 : ∀ a, a < 0 → ∀ b, b < 0 → a ≠ b → (TJ7 a).2.1 ≠ (TJ7 b).2.1 := by decide +kernel
theorem tyJ7_ok : ∀ k, k < 0 → parseFieldDescriptor (TJ7 k).2.2.1 = some (tyJ7 k) := by decide +kernel
abbrev cJ7_fill_53178 : ByteArray := prog_21_method_103_code
def yJ7_fill_53178 : MethodName := ⟨RJ7, "fill", "([II)V"⟩
def RL : String := "PaperMachineLaw"
abbrev cL_addGrade : ByteArray := method_3_code
def yL_addGrade : MethodName := ⟨RL, "addGrade", "(LPaperMachine;I[J)I"⟩
abbrev cL_setWidth : ByteArray := method_4_code
def yL_setWidth : MethodName := ⟨RL, "setWidth", "(LPaperMachine;I[J)I"⟩
abbrev cL_change : ByteArray := method_5_code
def yL_change : MethodName := ⟨RL, "change", "(LPaperMachine;I[J)I"⟩
abbrev cL_grade : ByteArray := method_6_code
def yL_grade : MethodName := ⟨RL, "grade", "(LPaperMachine;[J)I"⟩
abbrev cL_next : ByteArray := method_7_code
def yL_next : MethodName := ⟨RL, "next", "(LPaperMachine;[J)I"⟩
abbrev cL_mass : ByteArray := method_8_code
def yL_mass : MethodName := ⟨RL, "mass", "(LPaperMachine;I[J)I"⟩
abbrev cL_order : ByteArray := method_9_code
def yL_order : MethodName := ⟨RL, "order", "(LPaperMachine;III[J)I"⟩
abbrev cL_cancel : ByteArray := method_10_code
def yL_cancel : MethodName := ⟨RL, "cancel", "(LPaperMachine;I[J)I"⟩
abbrev cL_cut : ByteArray := method_11_code
def yL_cut : MethodName := ⟨RL, "cut", "(LPaperMachine;I[J)I"⟩
abbrev cL_lacks : ByteArray := method_12_code
def yL_lacks : MethodName := ⟨RL, "lacks", "(LPaperMachine;I[J)I"⟩
abbrev cL_trim : ByteArray := method_13_code
def yL_trim : MethodName := ⟨RL, "trim", "(LPaperMachine;I[J)I"⟩
abbrev cL_trimByTable : ByteArray := method_14_code
def yL_trimByTable : MethodName := ⟨RL, "trimByTable", "(LPaperMachine;I[J)I"⟩
abbrev cL_inCut : ByteArray := method_15_code
def yL_inCut : MethodName := ⟨RL, "inCut", "(LPaperMachine;I[J)I"⟩
abbrev cL_leastHours : ByteArray := method_16_code
def yL_leastHours : MethodName := ⟨RL, "leastHours", "(LPaperMachine;I[J)I"⟩
abbrev cL_setShare : ByteArray := method_17_code
def yL_setShare : MethodName := ⟨RL, "setShare", "(LPaperMachine;I[J)I"⟩
abbrev cL_setContract : ByteArray := method_18_code
def yL_setContract : MethodName := ⟨RL, "setContract", "(LPaperMachine;III[J)I"⟩
abbrev cL_pass : ByteArray := method_19_code
def yL_pass : MethodName := ⟨RL, "pass", "(LPaperMachine;I[J)I"⟩
abbrev cL_made : ByteArray := method_20_code
def yL_made : MethodName := ⟨RL, "made", "(LPaperMachine;I[J)I"⟩
abbrev cL_paperShare : ByteArray := method_21_code
def yL_paperShare : MethodName := ⟨RL, "paperShare", "(LPaperMachine;[D)I"⟩
abbrev cL_meanTrim : ByteArray := method_22_code
def yL_meanTrim : MethodName := ⟨RL, "meanTrim", "(LPaperMachine;[D)I"⟩
abbrev cL_law : ByteArray := code
def yL_law : MethodName := ⟨RL, "law", "([I)Z"⟩
def wsX0_init : List Cond := .code yX0_init cX0_init 1 none :: ([.methodLink RX0 1 objectInit, .instanceMethod objectInit, .code objectInit ⟨#[0xb1]⟩ 1 none, .fieldLink RX0 7 "PaperMachine$Contract" "limit" "I", .fieldLink RX0 13 "PaperMachine$Contract" "firstPrice" "I", .fieldLink RX0 16 "PaperMachine$Contract" "secondPrice" "I"] ++ wsX00)
def wsX0_cost : List Cond := .code yX0_cost cX0_cost 3 (some .long) :: ([.fieldLink RX0 7 "PaperMachine$Contract" "limit" "I", .methodLink RX0 19 Lib.Math.min.name, .static Lib.Math.min.name, .initialized "java/lang/Math", .code Lib.Math.min.name Lib.Math.min.code 2 (some .int), .fieldLink RX0 13 "PaperMachine$Contract" "firstPrice" "I", .fieldLink RX0 16 "PaperMachine$Contract" "secondPrice" "I"] ++ wsX00)
def wsX1_init : List Cond := .code yX1_init cX1_init 1 none :: ([.methodLink RX1 3 objectInit, .instanceMethod objectInit, .code objectInit ⟨#[0xb1]⟩ 1 none, .arrayClass .int, .fieldLink RX1 9 "PaperMachine$Cutter" "best" "[I", .fieldLink RX1 15 "PaperMachine$Cutter" "trial" "[I", .fieldLink RX1 18 "PaperMachine$Cutter" "widths" "[I", .fieldLink RX1 21 "PaperMachine$Cutter" "mostRolls" "[I", .fieldLink RX1 24 "PaperMachine$Cutter" "widestFrom" "[I", .fieldLink RX1 27 "PaperMachine$Cutter" "fewest" "[I"] ++ wsX10)
def wsX3_has : List Cond := .code yX3_has cX3_has 2 (some .boolean) :: ([.fieldLink RX3 24 "PaperMachine$OrderBook" "count" "I"] ++ wsX30)
def wsX1_load : List Cond := .code yX1_load cX1_load 7 none :: ([.methodLink RX1 30 Lib.Math.min.name, .static Lib.Math.min.name, .initialized "java/lang/Math", .code Lib.Math.min.name Lib.Math.min.code 2 (some .int), .methodLink RX1 36 Lib.Math.max.name, .static Lib.Math.max.name, .code Lib.Math.max.name Lib.Math.max.code 2 (some .int), .fieldLink RX1 39 "PaperMachine$Cutter" "room" "I", .fieldLink RX1 49 "PaperMachine$OrderBook" "grades" "[I", .fieldLink RX1 18 "PaperMachine$Cutter" "widths" "[I", .fieldLink RX1 52 "PaperMachine$OrderBook" "widths" "[I", .fieldLink RX1 21 "PaperMachine$Cutter" "mostRolls" "[I", .fieldLink RX1 53 "PaperMachine$OrderBook" "lacking" "[I", .fieldLink RX1 24 "PaperMachine$Cutter" "widestFrom" "[I", .methodLink RX1 43 yX3_has, .instanceMethod yX3_has, .selects RX3 yX3_has yX3_has, .initialized RX3, .code yX3_has cX3_has 2 (some .boolean), .fieldLink RX3 24 "PaperMachine$OrderBook" "count" "I"] ++ wsX10 ++ wsX30 ++ (vx_atM "java/lang/ArrayIndexOutOfBoundsException" ["java/lang/IndexOutOfBoundsException", "java/lang/RuntimeException", "java/lang/Exception"]).filter goodWord)
def wsJ7_fill_53178 : List Cond := .code yJ7_fill_53178 cJ7_fill_53178 4 none :: ([])
def wsX1_keepIfGreater : List Cond := .code yX1_keepIfGreater cX1_keepIfGreater 2 none :: ([.fieldLink RX1 56 "PaperMachine$Cutter" "bestSum" "I", .fieldLink RX1 15 "PaperMachine$Cutter" "trial" "[I", .fieldLink RX1 9 "PaperMachine$Cutter" "best" "[I", .methodLink RX1 73 arraycopyName, .native arraycopyName, .static arraycopyName, .initialized "java/lang/System"] ++ wsX10)
def wsX1_search : List Cond := .code yX1_search cX1_search 7 none :: ([.fieldLink RX1 24 "PaperMachine$Cutter" "widestFrom" "[I", .fieldLink RX1 39 "PaperMachine$Cutter" "room" "I", .methodLink RX1 30 Lib.Math.min.name, .static Lib.Math.min.name, .initialized "java/lang/Math", .code Lib.Math.min.name Lib.Math.min.code 2 (some .int), .fieldLink RX1 56 "PaperMachine$Cutter" "bestSum" "I", .fieldLink RX1 21 "PaperMachine$Cutter" "mostRolls" "[I", .fieldLink RX1 18 "PaperMachine$Cutter" "widths" "[I", .fieldLink RX1 15 "PaperMachine$Cutter" "trial" "[I", .methodLink RX1 69 yX1_keepIfGreater, .instanceMethod yX1_keepIfGreater, .selects RX1 yX1_keepIfGreater yX1_keepIfGreater, .initialized RX1, .code yX1_keepIfGreater cX1_keepIfGreater 2 none, .fieldLink RX1 9 "PaperMachine$Cutter" "best" "[I", .methodLink RX1 73 arraycopyName, .native arraycopyName, .static arraycopyName, .initialized "java/lang/System", .methodLink RX1 65 yX1_search, .static yX1_search] ++ wsX10 ++ (vx_atM "java/lang/ArrayIndexOutOfBoundsException" ["java/lang/IndexOutOfBoundsException", "java/lang/RuntimeException", "java/lang/Exception"]).filter goodWord)
def wsX1_sumBySearch_r1 : List Cond := [Cond.fieldLink RX1 56 "PaperMachine$Cutter" "bestSum" "I", Cond.fieldLink RX1 9 "PaperMachine$Cutter" "best" "[I", Cond.methodLink RX1 59 yJ7_fill_53178, Cond.static yJ7_fill_53178, Cond.initialized RJ7, Cond.code yJ7_fill_53178 cJ7_fill_53178 4 none, Cond.methodLink RX1 65 yX1_search, Cond.static yX1_search, Cond.initialized RX1, Cond.code yX1_search cX1_search 7 none, Cond.fieldLink RX1 24 "PaperMachine$Cutter" "widestFrom" "[I", Cond.fieldLink RX1 39 "PaperMachine$Cutter" "room" "I", Cond.methodLink RX1 30 Lib.Math.min.name, Cond.static Lib.Math.min.name, Cond.initialized "java/lang/Math", Cond.code Lib.Math.min.name Lib.Math.min.code 2 (some .int), Cond.fieldLink RX1 21 "PaperMachine$Cutter" "mostRolls" "[I", Cond.fieldLink RX1 18 "PaperMachine$Cutter" "widths" "[I", Cond.fieldLink RX1 15 "PaperMachine$Cutter" "trial" "[I", Cond.methodLink RX1 69 yX1_keepIfGreater, Cond.instanceMethod yX1_keepIfGreater, Cond.selects RX1 yX1_keepIfGreater yX1_keepIfGreater, Cond.code yX1_keepIfGreater cX1_keepIfGreater 2 none, Cond.methodLink RX1 73 arraycopyName]
def wsX1_sumBySearch_r2 : List Cond := [Cond.native arraycopyName, Cond.static arraycopyName, Cond.initialized "java/lang/System"]
def wsX1_sumBySearch : List Cond := .code yX1_sumBySearch cX1_sumBySearch 1 (some .int) :: ((wsX1_sumBySearch_r1 ++ wsX1_sumBySearch_r2) ++ wsX10 ++ (vx_atM "java/lang/ArrayIndexOutOfBoundsException" ["java/lang/IndexOutOfBoundsException", "java/lang/RuntimeException", "java/lang/Exception"]).filter goodWord)
def wsX1_addRollToTable : List Cond := .code yX1_addRollToTable cX1_addRollToTable 3 none :: ([.fieldLink RX1 39 "PaperMachine$Cutter" "room" "I", .fieldLink RX1 27 "PaperMachine$Cutter" "fewest" "[I", .methodLink RX1 30 Lib.Math.min.name, .static Lib.Math.min.name, .initialized "java/lang/Math", .code Lib.Math.min.name Lib.Math.min.code 2 (some .int)] ++ wsX10 ++ (vx_atM "java/lang/ArrayIndexOutOfBoundsException" ["java/lang/IndexOutOfBoundsException", "java/lang/RuntimeException", "java/lang/Exception"]).filter goodWord)
def wsX1_sumByTable : List Cond := .code yX1_sumByTable cX1_sumByTable 3 (some .int) :: ([.fieldLink RX1 27 "PaperMachine$Cutter" "fewest" "[I", .fieldLink RX1 21 "PaperMachine$Cutter" "mostRolls" "[I", .fieldLink RX1 18 "PaperMachine$Cutter" "widths" "[I", .fieldLink RX1 39 "PaperMachine$Cutter" "room" "I", .methodLink RX1 59 yJ7_fill_53178, .static yJ7_fill_53178, .initialized RJ7, .code yJ7_fill_53178 cJ7_fill_53178 4 none, .methodLink RX1 79 yX1_addRollToTable, .instanceMethod yX1_addRollToTable, .selects RX1 yX1_addRollToTable yX1_addRollToTable, .initialized RX1, .code yX1_addRollToTable cX1_addRollToTable 3 none, .methodLink RX1 30 Lib.Math.min.name, .static Lib.Math.min.name, .initialized "java/lang/Math", .code Lib.Math.min.name Lib.Math.min.code 2 (some .int)] ++ wsX10 ++ (vx_atM "java/lang/ArrayIndexOutOfBoundsException" ["java/lang/IndexOutOfBoundsException", "java/lang/RuntimeException", "java/lang/Exception"]).filter goodWord)
def wsX2_init : List Cond := .code yX2_init cX2_init 1 none :: ([.methodLink RX2 3 objectInit, .instanceMethod objectInit, .code objectInit ⟨#[0xb1]⟩ 1 none, .arrayClass .char, .fieldLink RX2 9 "PaperMachine$HourBook" "kinds" "[C", .arrayClass .int, .fieldLink RX2 15 "PaperMachine$HourBook" "freshIn" "[I", .fieldLink RX2 19 "PaperMachine$HourBook" "paperOut" "[I", .fieldLink RX2 22 "PaperMachine$HourBook" "lossOut" "[I"] ++ wsX20)
def wsX2_has : List Cond := .code yX2_has cX2_has 2 (some .boolean) :: ([.fieldLink RX2 25 "PaperMachine$HourBook" "count" "I"] ++ wsX20)
def wsX2_writeMade : List Cond := .code yX2_writeMade cX2_writeMade 5 none :: ([.fieldLink RX2 25 "PaperMachine$HourBook" "count" "I", .fieldLink RX2 9 "PaperMachine$HourBook" "kinds" "[C", .fieldLink RX2 15 "PaperMachine$HourBook" "freshIn" "[I", .fieldLink RX2 19 "PaperMachine$HourBook" "paperOut" "[I", .fieldLink RX2 22 "PaperMachine$HourBook" "lossOut" "[I", .fieldLink RX2 33 "PaperMachine$HourBook" "freshSum" "J", .fieldLink RX2 37 "PaperMachine$HourBook" "paperSum" "J", .fieldLink RX2 40 "PaperMachine$HourBook" "lossSum" "J"] ++ wsX20 ++ (vx_atM "java/lang/ArrayIndexOutOfBoundsException" ["java/lang/IndexOutOfBoundsException", "java/lang/RuntimeException", "java/lang/Exception"]).filter goodWord)
def wsX2_writeNothing : List Cond := .code yX2_writeNothing cX2_writeNothing 1 none :: ([.methodLink RX2 29 yX2_writeMade, .instanceMethod yX2_writeMade, .selects RX2 yX2_writeMade yX2_writeMade, .initialized RX2, .code yX2_writeMade cX2_writeMade 5 none, .fieldLink RX2 25 "PaperMachine$HourBook" "count" "I", .fieldLink RX2 9 "PaperMachine$HourBook" "kinds" "[C", .fieldLink RX2 15 "PaperMachine$HourBook" "freshIn" "[I", .fieldLink RX2 19 "PaperMachine$HourBook" "paperOut" "[I", .fieldLink RX2 22 "PaperMachine$HourBook" "lossOut" "[I", .fieldLink RX2 33 "PaperMachine$HourBook" "freshSum" "J", .fieldLink RX2 37 "PaperMachine$HourBook" "paperSum" "J", .fieldLink RX2 40 "PaperMachine$HourBook" "lossSum" "J"] ++ wsX20 ++ (vx_atM "java/lang/ArrayIndexOutOfBoundsException" ["java/lang/IndexOutOfBoundsException", "java/lang/RuntimeException", "java/lang/Exception"]).filter goodWord)
def wsX2_writeTrim : List Cond := .code yX2_writeTrim cX2_writeTrim 2 none :: ([.fieldLink RX2 43 "PaperMachine$HourBook" "trimSum" "J", .fieldLink RX2 46 "PaperMachine$HourBook" "paperHours" "I"] ++ wsX20)
def wsX2_fibreStillThere : List Cond := .code yX2_fibreStillThere cX2_fibreStillThere 3 (some .int) :: ([.fieldLink RX2 25 "PaperMachine$HourBook" "count" "I", .fieldLink RX2 15 "PaperMachine$HourBook" "freshIn" "[I", .fieldLink RX2 19 "PaperMachine$HourBook" "paperOut" "[I", .fieldLink RX2 22 "PaperMachine$HourBook" "lossOut" "[I"] ++ wsX20 ++ (vx_atM "java/lang/ArrayIndexOutOfBoundsException" ["java/lang/IndexOutOfBoundsException", "java/lang/RuntimeException", "java/lang/Exception"]).filter goodWord)
def wsX3_init : List Cond := .code yX3_init cX3_init 1 none :: ([.methodLink RX3 3 objectInit, .instanceMethod objectInit, .code objectInit ⟨#[0xb1]⟩ 1 none, .arrayClass .int, .fieldLink RX3 9 "PaperMachine$OrderBook" "grades" "[I", .fieldLink RX3 15 "PaperMachine$OrderBook" "widths" "[I", .fieldLink RX3 18 "PaperMachine$OrderBook" "rollsCut" "[I", .fieldLink RX3 21 "PaperMachine$OrderBook" "lacking" "[I"] ++ wsX30)
def wsX3_isFull : List Cond := .code yX3_isFull cX3_isFull 1 (some .boolean) :: ([.fieldLink RX3 24 "PaperMachine$OrderBook" "count" "I"] ++ wsX30)
def wsX3_write : List Cond := .code yX3_write cX3_write 5 (some .int) :: ([.fieldLink RX3 24 "PaperMachine$OrderBook" "count" "I", .fieldLink RX3 9 "PaperMachine$OrderBook" "grades" "[I", .fieldLink RX3 15 "PaperMachine$OrderBook" "widths" "[I", .fieldLink RX3 18 "PaperMachine$OrderBook" "rollsCut" "[I", .fieldLink RX3 21 "PaperMachine$OrderBook" "lacking" "[I", .methodLink RX3 28 yX3_isFull, .instanceMethod yX3_isFull, .selects RX3 yX3_isFull yX3_isFull, .initialized RX3, .code yX3_isFull cX3_isFull 1 (some .boolean)] ++ wsX30 ++ (vx_atM "java/lang/ArrayIndexOutOfBoundsException" ["java/lang/IndexOutOfBoundsException", "java/lang/RuntimeException", "java/lang/Exception"]).filter goodWord)
def wsX3_widestOpen : List Cond := .code yX3_widestOpen cX3_widestOpen 3 (some .int) :: ([.fieldLink RX3 24 "PaperMachine$OrderBook" "count" "I", .fieldLink RX3 21 "PaperMachine$OrderBook" "lacking" "[I", .fieldLink RX3 15 "PaperMachine$OrderBook" "widths" "[I", .methodLink RX3 32 Lib.Math.max.name, .static Lib.Math.max.name, .initialized "java/lang/Math", .code Lib.Math.max.name Lib.Math.max.code 2 (some .int)] ++ wsX30 ++ (vx_atM "java/lang/ArrayIndexOutOfBoundsException" ["java/lang/IndexOutOfBoundsException", "java/lang/RuntimeException", "java/lang/Exception"]).filter goodWord)
def wsX3_rollsLacking : List Cond := .code yX3_rollsLacking cX3_rollsLacking 4 (some .int) :: ([.fieldLink RX3 24 "PaperMachine$OrderBook" "count" "I", .fieldLink RX3 9 "PaperMachine$OrderBook" "grades" "[I", .fieldLink RX3 21 "PaperMachine$OrderBook" "lacking" "[I"] ++ wsX30 ++ (vx_atM "java/lang/ArrayIndexOutOfBoundsException" ["java/lang/IndexOutOfBoundsException", "java/lang/RuntimeException", "java/lang/Exception"]).filter goodWord)
def wsX3_widthLacking : List Cond := .code yX3_widthLacking cX3_widthLacking 4 (some .int) :: ([.fieldLink RX3 24 "PaperMachine$OrderBook" "count" "I", .fieldLink RX3 9 "PaperMachine$OrderBook" "grades" "[I", .fieldLink RX3 21 "PaperMachine$OrderBook" "lacking" "[I", .fieldLink RX3 15 "PaperMachine$OrderBook" "widths" "[I"] ++ wsX30 ++ (vx_atM "java/lang/ArrayIndexOutOfBoundsException" ["java/lang/IndexOutOfBoundsException", "java/lang/RuntimeException", "java/lang/Exception"]).filter goodWord)
def wsX3_takeOff : List Cond := .code yX3_takeOff cX3_takeOff 4 (some .int) :: ([.fieldLink RX3 24 "PaperMachine$OrderBook" "count" "I", .fieldLink RX3 18 "PaperMachine$OrderBook" "rollsCut" "[I", .fieldLink RX3 21 "PaperMachine$OrderBook" "lacking" "[I"] ++ wsX30 ++ (vx_atM "java/lang/ArrayIndexOutOfBoundsException" ["java/lang/IndexOutOfBoundsException", "java/lang/RuntimeException", "java/lang/Exception"]).filter goodWord)
def wsX4_init_r1 : List Cond := [Cond.methodLink RX4 1 objectInit, Cond.instanceMethod objectInit, Cond.code objectInit ⟨#[0xb1]⟩ 1 none, Cond.arrayClass .int, Cond.fieldLink RX4 9 "PaperMachine" "weights" "[I", Cond.fieldLink RX4 13 "PaperMachine" "machineWidth" "I", Cond.fieldLink RX4 17 "PaperMachine" "machineGrade" "I", Cond.fieldLink RX4 20 "PaperMachine" "upward" "Z", Cond.classLink RX4 24 RX3, Cond.instantiable RX3 5, Cond.initialized RX3, Cond.fieldLink RX4 27 "PaperMachine" "orderBook" "LPaperMachine$OrderBook;", Cond.classLink RX4 31 RX1, Cond.instantiable RX1 8, Cond.initialized RX1, Cond.fieldLink RX4 34 "PaperMachine" "cutter" "LPaperMachine$Cutter;", Cond.classLink RX4 38 RX0, Cond.instantiable RX0 3, Cond.initialized RX0, Cond.fieldLink RX4 41 "PaperMachine" "contract" "LPaperMachine$Contract;", Cond.classLink RX4 45 RX2, Cond.instantiable RX2 11, Cond.initialized RX2, Cond.fieldLink RX4 48 "PaperMachine" "hourBook" "LPaperMachine$HourBook;"]
def wsX4_init_r2 : List Cond := [Cond.fieldLink RX4 52 "PaperMachine" "share" "I", Cond.instanceMethod yX3_init, Cond.code yX3_init cX3_init 1 none, Cond.methodLink RX3 3 objectInit, Cond.fieldLink RX3 9 "PaperMachine$OrderBook" "grades" "[I", Cond.fieldLink RX3 15 "PaperMachine$OrderBook" "widths" "[I", Cond.fieldLink RX3 18 "PaperMachine$OrderBook" "rollsCut" "[I", Cond.fieldLink RX3 21 "PaperMachine$OrderBook" "lacking" "[I", Cond.instanceMethod yX1_init, Cond.code yX1_init cX1_init 1 none, Cond.methodLink RX1 3 objectInit, Cond.fieldLink RX1 9 "PaperMachine$Cutter" "best" "[I", Cond.fieldLink RX1 15 "PaperMachine$Cutter" "trial" "[I", Cond.fieldLink RX1 18 "PaperMachine$Cutter" "widths" "[I", Cond.fieldLink RX1 21 "PaperMachine$Cutter" "mostRolls" "[I", Cond.fieldLink RX1 24 "PaperMachine$Cutter" "widestFrom" "[I", Cond.fieldLink RX1 27 "PaperMachine$Cutter" "fewest" "[I", Cond.instanceMethod yX0_init, Cond.code yX0_init cX0_init 1 none, Cond.methodLink RX0 1 objectInit, Cond.fieldLink RX0 7 "PaperMachine$Contract" "limit" "I", Cond.fieldLink RX0 13 "PaperMachine$Contract" "firstPrice" "I", Cond.fieldLink RX0 16 "PaperMachine$Contract" "secondPrice" "I", Cond.instanceMethod yX2_init]
def wsX4_init_r3 : List Cond := [Cond.code yX2_init cX2_init 1 none, Cond.methodLink RX2 3 objectInit, Cond.arrayClass .char, Cond.fieldLink RX2 9 "PaperMachine$HourBook" "kinds" "[C", Cond.fieldLink RX2 15 "PaperMachine$HourBook" "freshIn" "[I", Cond.fieldLink RX2 19 "PaperMachine$HourBook" "paperOut" "[I", Cond.fieldLink RX2 22 "PaperMachine$HourBook" "lossOut" "[I"]
def wsX4_init : List Cond := .code yX4_init cX4_init 1 none :: ((wsX4_init_r1 ++ (wsX4_init_r2 ++ wsX4_init_r3)) ++ wsX40 ++ wsX30 ++ wsX10 ++ wsX00 ++ wsX20)
def wsX4_isWithin : List Cond := .code yX4_isWithin cX4_isWithin 3 (some .boolean) :: ([])
def wsX4_isWeightTaken : List Cond := .code yX4_isWeightTaken cX4_isWeightTaken 3 (some .boolean) :: ([.fieldLink RX4 70 "PaperMachine" "gradeCount" "I", .fieldLink RX4 9 "PaperMachine" "weights" "[I"] ++ wsX40 ++ (vx_atM "java/lang/ArrayIndexOutOfBoundsException" ["java/lang/IndexOutOfBoundsException", "java/lang/RuntimeException", "java/lang/Exception"]).filter goodWord)
def wsX4_addGrade : List Cond := .code yX4_addGrade cX4_addGrade 3 (some .int) :: ([.classLink RX4 63 "java/lang/IllegalArgumentException", .initialized "java/lang/IllegalArgumentException", .classLink RX4 73 "java/lang/IllegalStateException", .initialized "java/lang/IllegalStateException", .fieldLink RX4 70 "PaperMachine" "gradeCount" "I", .fieldLink RX4 9 "PaperMachine" "weights" "[I", .methodLink RX4 55 yX4_isWithin, .static yX4_isWithin, .initialized RX4, .code yX4_isWithin cX4_isWithin 3 (some .boolean), .methodLink RX4 59 yX4_isWeightTaken, .instanceMethod yX4_isWeightTaken, .selects RX4 yX4_isWeightTaken yX4_isWeightTaken, .code yX4_isWeightTaken cX4_isWeightTaken 3 (some .boolean)] ++ wsX40 ++ (vx_atS RX4 67 "java/lang/IllegalArgumentException" ["java/lang/RuntimeException", "java/lang/Exception"]).filter goodWord ++ (vx_atS RX4 77 "java/lang/IllegalStateException" ["java/lang/RuntimeException", "java/lang/Exception"]).filter goodWord ++ (vx_atM "java/lang/ArrayIndexOutOfBoundsException" ["java/lang/IndexOutOfBoundsException", "java/lang/RuntimeException", "java/lang/Exception"]).filter goodWord)
def wsX4_setWidth : List Cond := .code yX4_setWidth cX4_setWidth 3 (some .int) :: ([.classLink RX4 63 "java/lang/IllegalArgumentException", .initialized "java/lang/IllegalArgumentException", .classLink RX4 73 "java/lang/IllegalStateException", .initialized "java/lang/IllegalStateException", .fieldLink RX4 27 "PaperMachine" "orderBook" "LPaperMachine$OrderBook;", .fieldLink RX4 13 "PaperMachine" "machineWidth" "I", .methodLink RX4 55 yX4_isWithin, .static yX4_isWithin, .initialized RX4, .code yX4_isWithin cX4_isWithin 3 (some .boolean), .methodLink RX4 80 yX3_widestOpen, .instanceMethod yX3_widestOpen, .selects RX3 yX3_widestOpen yX3_widestOpen, .initialized RX3, .code yX3_widestOpen cX3_widestOpen 3 (some .int), .fieldLink RX3 24 "PaperMachine$OrderBook" "count" "I", .fieldLink RX3 21 "PaperMachine$OrderBook" "lacking" "[I", .fieldLink RX3 15 "PaperMachine$OrderBook" "widths" "[I", .methodLink RX3 32 Lib.Math.max.name, .static Lib.Math.max.name, .initialized "java/lang/Math", .code Lib.Math.max.name Lib.Math.max.code 2 (some .int)] ++ wsX40 ++ wsX30 ++ (vx_atS RX4 67 "java/lang/IllegalArgumentException" ["java/lang/RuntimeException", "java/lang/Exception"]).filter goodWord ++ (vx_atS RX4 77 "java/lang/IllegalStateException" ["java/lang/RuntimeException", "java/lang/Exception"]).filter goodWord ++ (vx_atM "java/lang/ArrayIndexOutOfBoundsException" ["java/lang/IndexOutOfBoundsException", "java/lang/RuntimeException", "java/lang/Exception"]).filter goodWord)
def wsX4_isGrade : List Cond := .code yX4_isGrade cX4_isGrade 2 (some .boolean) :: ([.fieldLink RX4 70 "PaperMachine" "gradeCount" "I"] ++ wsX40)
def wsX4_change : List Cond := .code yX4_change cX4_change 4 (some .int) :: ([.classLink RX4 89 "java/lang/IndexOutOfBoundsException", .initialized "java/lang/IndexOutOfBoundsException", .classLink RX4 63 "java/lang/IllegalArgumentException", .initialized "java/lang/IllegalArgumentException", .classLink RX4 73 "java/lang/IllegalStateException", .initialized "java/lang/IllegalStateException", .fieldLink RX4 17 "PaperMachine" "machineGrade" "I", .fieldLink RX4 96 "PaperMachine" "changeHours" "I", .fieldLink RX4 9 "PaperMachine" "weights" "[I", .methodLink RX4 101 Lib.Math.abs.name, .static Lib.Math.abs.name, .initialized "java/lang/Math", .code Lib.Math.abs.name Lib.Math.abs.code 1 (some .int), .fieldLink RX4 20 "PaperMachine" "upward" "Z", .methodLink RX4 86 yX4_isGrade, .instanceMethod yX4_isGrade, .selects RX4 yX4_isGrade yX4_isGrade, .initialized RX4, .code yX4_isGrade cX4_isGrade 2 (some .boolean), .fieldLink RX4 70 "PaperMachine" "gradeCount" "I"] ++ wsX40 ++ (vx_atS RX4 93 "java/lang/IndexOutOfBoundsException" ["java/lang/RuntimeException", "java/lang/Exception"]).filter goodWord ++ (vx_atS RX4 67 "java/lang/IllegalArgumentException" ["java/lang/RuntimeException", "java/lang/Exception"]).filter goodWord ++ (vx_atS RX4 77 "java/lang/IllegalStateException" ["java/lang/RuntimeException", "java/lang/Exception"]).filter goodWord ++ (vx_atM "java/lang/ArrayIndexOutOfBoundsException" ["java/lang/IndexOutOfBoundsException", "java/lang/RuntimeException", "java/lang/Exception"]).filter goodWord)
def wsX4_grade : List Cond := .code yX4_grade cX4_grade 1 (some .int) :: ([.classLink RX4 107 "java/util/NoSuchElementException", .initialized "java/util/NoSuchElementException", .fieldLink RX4 17 "PaperMachine" "machineGrade" "I", .methodLink RX4 86 yX4_isGrade, .instanceMethod yX4_isGrade, .selects RX4 yX4_isGrade yX4_isGrade, .initialized RX4, .code yX4_isGrade cX4_isGrade 2 (some .boolean), .fieldLink RX4 70 "PaperMachine" "gradeCount" "I"] ++ wsX40 ++ (nx_atS RX4 111 "java/util/NoSuchElementException" ["java/lang/RuntimeException", "java/lang/Exception"]).filter goodWord)
def wsX4_changing : List Cond := .code yX4_changing cX4_changing 1 (some .int) :: ([.fieldLink RX4 96 "PaperMachine" "changeHours" "I"] ++ wsX40)
def wsX4_nearestWaiting : List Cond := .code yX4_nearestWaiting cX4_nearestWaiting 8 (some .int) :: ([.fieldLink RX4 70 "PaperMachine" "gradeCount" "I", .fieldLink RX4 9 "PaperMachine" "weights" "[I", .fieldLink RX4 27 "PaperMachine" "orderBook" "LPaperMachine$OrderBook;", .methodLink RX4 174 yX3_rollsLacking, .instanceMethod yX3_rollsLacking, .selects RX3 yX3_rollsLacking yX3_rollsLacking, .initialized RX3, .code yX3_rollsLacking cX3_rollsLacking 4 (some .int), .fieldLink RX3 24 "PaperMachine$OrderBook" "count" "I", .fieldLink RX3 9 "PaperMachine$OrderBook" "grades" "[I", .fieldLink RX3 21 "PaperMachine$OrderBook" "lacking" "[I"] ++ wsX40 ++ wsX30 ++ (vx_atM "java/lang/ArrayIndexOutOfBoundsException" ["java/lang/IndexOutOfBoundsException", "java/lang/RuntimeException", "java/lang/Exception"]).filter goodWord)
def wsX4_next : List Cond := .code yX4_next cX4_next 2 (some .int) :: ([.classLink RX4 107 "java/util/NoSuchElementException", .initialized "java/util/NoSuchElementException", .fieldLink RX4 17 "PaperMachine" "machineGrade" "I", .fieldLink RX4 9 "PaperMachine" "weights" "[I", .fieldLink RX4 20 "PaperMachine" "upward" "Z", .methodLink RX4 86 yX4_isGrade, .instanceMethod yX4_isGrade, .selects RX4 yX4_isGrade yX4_isGrade, .initialized RX4, .code yX4_isGrade cX4_isGrade 2 (some .boolean), .fieldLink RX4 70 "PaperMachine" "gradeCount" "I", .methodLink RX4 112 yX4_nearestWaiting, .instanceMethod yX4_nearestWaiting, .selects RX4 yX4_nearestWaiting yX4_nearestWaiting, .code yX4_nearestWaiting cX4_nearestWaiting 8 (some .int), .fieldLink RX4 27 "PaperMachine" "orderBook" "LPaperMachine$OrderBook;", .methodLink RX4 174 yX3_rollsLacking, .instanceMethod yX3_rollsLacking, .selects RX3 yX3_rollsLacking yX3_rollsLacking, .initialized RX3, .code yX3_rollsLacking cX3_rollsLacking 4 (some .int), .fieldLink RX3 24 "PaperMachine$OrderBook" "count" "I", .fieldLink RX3 9 "PaperMachine$OrderBook" "grades" "[I", .fieldLink RX3 21 "PaperMachine$OrderBook" "lacking" "[I"] ++ wsX40 ++ wsX30 ++ (vx_atM "java/lang/ArrayIndexOutOfBoundsException" ["java/lang/IndexOutOfBoundsException", "java/lang/RuntimeException", "java/lang/Exception"]).filter goodWord ++ (nx_atS RX4 111 "java/util/NoSuchElementException" ["java/lang/RuntimeException", "java/lang/Exception"]).filter goodWord)
def wsX4_massOfAnHour : List Cond := .code yX4_massOfAnHour cX4_massOfAnHour 2 (some .int) :: ([.fieldLink RX4 9 "PaperMachine" "weights" "[I", .fieldLink RX4 13 "PaperMachine" "machineWidth" "I", .methodLink RX4 86 yX4_isGrade, .instanceMethod yX4_isGrade, .selects RX4 yX4_isGrade yX4_isGrade, .initialized RX4, .code yX4_isGrade cX4_isGrade 2 (some .boolean), .fieldLink RX4 70 "PaperMachine" "gradeCount" "I"] ++ wsX40 ++ (vx_atM "java/lang/ArrayIndexOutOfBoundsException" ["java/lang/IndexOutOfBoundsException", "java/lang/RuntimeException", "java/lang/Exception"]).filter goodWord)
def wsX4_mass : List Cond := .code yX4_mass cX4_mass 2 (some .int) :: ([.classLink RX4 89 "java/lang/IndexOutOfBoundsException", .initialized "java/lang/IndexOutOfBoundsException", .methodLink RX4 86 yX4_isGrade, .instanceMethod yX4_isGrade, .selects RX4 yX4_isGrade yX4_isGrade, .initialized RX4, .code yX4_isGrade cX4_isGrade 2 (some .boolean), .fieldLink RX4 70 "PaperMachine" "gradeCount" "I", .methodLink RX4 118 yX4_massOfAnHour, .instanceMethod yX4_massOfAnHour, .selects RX4 yX4_massOfAnHour yX4_massOfAnHour, .code yX4_massOfAnHour cX4_massOfAnHour 2 (some .int), .fieldLink RX4 9 "PaperMachine" "weights" "[I", .fieldLink RX4 13 "PaperMachine" "machineWidth" "I"] ++ wsX40 ++ (vx_atS RX4 93 "java/lang/IndexOutOfBoundsException" ["java/lang/RuntimeException", "java/lang/Exception"]).filter goodWord ++ (vx_atM "java/lang/ArrayIndexOutOfBoundsException" ["java/lang/IndexOutOfBoundsException", "java/lang/RuntimeException", "java/lang/Exception"]).filter goodWord)
def wsX4_order_r1 : List Cond := [Cond.classLink RX4 89 "java/lang/IndexOutOfBoundsException", Cond.initialized "java/lang/IndexOutOfBoundsException", Cond.classLink RX4 63 "java/lang/IllegalArgumentException", Cond.initialized "java/lang/IllegalArgumentException", Cond.classLink RX4 123 "java/lang/UnsupportedOperationException", Cond.initialized "java/lang/UnsupportedOperationException", Cond.classLink RX4 73 "java/lang/IllegalStateException", Cond.initialized "java/lang/IllegalStateException", Cond.fieldLink RX4 13 "PaperMachine" "machineWidth" "I", Cond.fieldLink RX4 27 "PaperMachine" "orderBook" "LPaperMachine$OrderBook;", Cond.methodLink RX4 86 yX4_isGrade, Cond.instanceMethod yX4_isGrade, Cond.selects RX4 yX4_isGrade yX4_isGrade, Cond.initialized RX4, Cond.code yX4_isGrade cX4_isGrade 2 (some .boolean), Cond.fieldLink RX4 70 "PaperMachine" "gradeCount" "I", Cond.methodLink RX4 55 yX4_isWithin, Cond.static yX4_isWithin, Cond.code yX4_isWithin cX4_isWithin 3 (some .boolean), Cond.methodLink RX4 128 yX3_isFull, Cond.instanceMethod yX3_isFull, Cond.selects RX3 yX3_isFull yX3_isFull, Cond.initialized RX3, Cond.code yX3_isFull cX3_isFull 1 (some .boolean)]
def wsX4_order_r2 : List Cond := [Cond.fieldLink RX3 24 "PaperMachine$OrderBook" "count" "I", Cond.methodLink RX4 134 yX3_write, Cond.instanceMethod yX3_write, Cond.selects RX3 yX3_write yX3_write, Cond.code yX3_write cX3_write 5 (some .int), Cond.fieldLink RX3 9 "PaperMachine$OrderBook" "grades" "[I", Cond.fieldLink RX3 15 "PaperMachine$OrderBook" "widths" "[I", Cond.fieldLink RX3 18 "PaperMachine$OrderBook" "rollsCut" "[I", Cond.fieldLink RX3 21 "PaperMachine$OrderBook" "lacking" "[I", Cond.methodLink RX3 28 yX3_isFull]
def wsX4_order : List Cond := .code yX4_order cX4_order 4 (some .int) :: ((wsX4_order_r1 ++ wsX4_order_r2) ++ wsX40 ++ wsX30 ++ (vx_atS RX4 93 "java/lang/IndexOutOfBoundsException" ["java/lang/RuntimeException", "java/lang/Exception"]).filter goodWord ++ (vx_atS RX4 67 "java/lang/IllegalArgumentException" ["java/lang/RuntimeException", "java/lang/Exception"]).filter goodWord ++ (vx_atS RX4 127 "java/lang/UnsupportedOperationException" ["java/lang/RuntimeException", "java/lang/Exception"]).filter goodWord ++ (vx_atS RX4 77 "java/lang/IllegalStateException" ["java/lang/RuntimeException", "java/lang/Exception"]).filter goodWord ++ (vx_atM "java/lang/ArrayIndexOutOfBoundsException" ["java/lang/IndexOutOfBoundsException", "java/lang/RuntimeException", "java/lang/Exception"]).filter goodWord)
def wsX4_cancel : List Cond := .code yX4_cancel cX4_cancel 3 (some .int) :: ([.classLink RX4 89 "java/lang/IndexOutOfBoundsException", .initialized "java/lang/IndexOutOfBoundsException", .classLink RX4 73 "java/lang/IllegalStateException", .initialized "java/lang/IllegalStateException", .fieldLink RX4 27 "PaperMachine" "orderBook" "LPaperMachine$OrderBook;", .fieldLink RX4 143 "PaperMachine$OrderBook" "lacking" "[I", .methodLink RX4 138 yX3_has, .instanceMethod yX3_has, .selects RX3 yX3_has yX3_has, .initialized RX3, .code yX3_has cX3_has 2 (some .boolean), .fieldLink RX3 24 "PaperMachine$OrderBook" "count" "I"] ++ wsX40 ++ wsX30 ++ (vx_atS RX4 93 "java/lang/IndexOutOfBoundsException" ["java/lang/RuntimeException", "java/lang/Exception"]).filter goodWord ++ (vx_atM "java/lang/ArrayIndexOutOfBoundsException" ["java/lang/IndexOutOfBoundsException", "java/lang/RuntimeException", "java/lang/Exception"]).filter goodWord ++ (vx_atS RX4 77 "java/lang/IllegalStateException" ["java/lang/RuntimeException", "java/lang/Exception"]).filter goodWord)
def wsX4_cut : List Cond := .code yX4_cut cX4_cut 2 (some .int) :: ([.classLink RX4 89 "java/lang/IndexOutOfBoundsException", .initialized "java/lang/IndexOutOfBoundsException", .fieldLink RX4 27 "PaperMachine" "orderBook" "LPaperMachine$OrderBook;", .fieldLink RX4 148 "PaperMachine$OrderBook" "rollsCut" "[I", .methodLink RX4 138 yX3_has, .instanceMethod yX3_has, .selects RX3 yX3_has yX3_has, .initialized RX3, .code yX3_has cX3_has 2 (some .boolean), .fieldLink RX3 24 "PaperMachine$OrderBook" "count" "I"] ++ wsX40 ++ wsX30 ++ (vx_atS RX4 93 "java/lang/IndexOutOfBoundsException" ["java/lang/RuntimeException", "java/lang/Exception"]).filter goodWord ++ (vx_atM "java/lang/ArrayIndexOutOfBoundsException" ["java/lang/IndexOutOfBoundsException", "java/lang/RuntimeException", "java/lang/Exception"]).filter goodWord)
def wsX4_lacks : List Cond := .code yX4_lacks cX4_lacks 2 (some .int) :: ([.classLink RX4 89 "java/lang/IndexOutOfBoundsException", .initialized "java/lang/IndexOutOfBoundsException", .fieldLink RX4 27 "PaperMachine" "orderBook" "LPaperMachine$OrderBook;", .fieldLink RX4 143 "PaperMachine$OrderBook" "lacking" "[I", .methodLink RX4 138 yX3_has, .instanceMethod yX3_has, .selects RX3 yX3_has yX3_has, .initialized RX3, .code yX3_has cX3_has 2 (some .boolean), .fieldLink RX3 24 "PaperMachine$OrderBook" "count" "I"] ++ wsX40 ++ wsX30 ++ (vx_atS RX4 93 "java/lang/IndexOutOfBoundsException" ["java/lang/RuntimeException", "java/lang/Exception"]).filter goodWord ++ (vx_atM "java/lang/ArrayIndexOutOfBoundsException" ["java/lang/IndexOutOfBoundsException", "java/lang/RuntimeException", "java/lang/Exception"]).filter goodWord)
def wsX4_trim_r1 : List Cond := [Cond.classLink RX4 89 "java/lang/IndexOutOfBoundsException", Cond.initialized "java/lang/IndexOutOfBoundsException", Cond.fieldLink RX4 34 "PaperMachine" "cutter" "LPaperMachine$Cutter;", Cond.fieldLink RX4 27 "PaperMachine" "orderBook" "LPaperMachine$OrderBook;", Cond.fieldLink RX4 13 "PaperMachine" "machineWidth" "I", Cond.methodLink RX4 86 yX4_isGrade, Cond.instanceMethod yX4_isGrade, Cond.selects RX4 yX4_isGrade yX4_isGrade, Cond.initialized RX4, Cond.code yX4_isGrade cX4_isGrade 2 (some .boolean), Cond.fieldLink RX4 70 "PaperMachine" "gradeCount" "I", Cond.methodLink RX4 151 yX1_load, Cond.instanceMethod yX1_load, Cond.selects RX1 yX1_load yX1_load, Cond.initialized RX1, Cond.code yX1_load cX1_load 7 none, Cond.methodLink RX1 30 Lib.Math.min.name, Cond.static Lib.Math.min.name, Cond.initialized "java/lang/Math", Cond.code Lib.Math.min.name Lib.Math.min.code 2 (some .int), Cond.methodLink RX1 36 Lib.Math.max.name, Cond.static Lib.Math.max.name, Cond.code Lib.Math.max.name Lib.Math.max.code 2 (some .int), Cond.fieldLink RX1 39 "PaperMachine$Cutter" "room" "I"]
def wsX4_trim_r2 : List Cond := [Cond.fieldLink RX1 49 "PaperMachine$OrderBook" "grades" "[I", Cond.fieldLink RX1 18 "PaperMachine$Cutter" "widths" "[I", Cond.fieldLink RX1 52 "PaperMachine$OrderBook" "widths" "[I", Cond.fieldLink RX1 21 "PaperMachine$Cutter" "mostRolls" "[I", Cond.fieldLink RX1 53 "PaperMachine$OrderBook" "lacking" "[I", Cond.fieldLink RX1 24 "PaperMachine$Cutter" "widestFrom" "[I", Cond.methodLink RX1 43 yX3_has, Cond.instanceMethod yX3_has, Cond.selects RX3 yX3_has yX3_has, Cond.initialized RX3, Cond.code yX3_has cX3_has 2 (some .boolean), Cond.fieldLink RX3 24 "PaperMachine$OrderBook" "count" "I", Cond.methodLink RX4 155 yX1_sumBySearch, Cond.instanceMethod yX1_sumBySearch, Cond.selects RX1 yX1_sumBySearch yX1_sumBySearch, Cond.code yX1_sumBySearch cX1_sumBySearch 1 (some .int), Cond.fieldLink RX1 56 "PaperMachine$Cutter" "bestSum" "I", Cond.fieldLink RX1 9 "PaperMachine$Cutter" "best" "[I", Cond.methodLink RX1 59 yJ7_fill_53178, Cond.static yJ7_fill_53178, Cond.initialized RJ7, Cond.code yJ7_fill_53178 cJ7_fill_53178 4 none, Cond.methodLink RX1 65 yX1_search, Cond.static yX1_search]
def wsX4_trim_r3 : List Cond := [Cond.code yX1_search cX1_search 7 none, Cond.fieldLink RX1 15 "PaperMachine$Cutter" "trial" "[I", Cond.methodLink RX1 69 yX1_keepIfGreater, Cond.instanceMethod yX1_keepIfGreater, Cond.selects RX1 yX1_keepIfGreater yX1_keepIfGreater, Cond.code yX1_keepIfGreater cX1_keepIfGreater 2 none, Cond.methodLink RX1 73 arraycopyName, Cond.native arraycopyName, Cond.static arraycopyName, Cond.initialized "java/lang/System"]
def wsX4_trim : List Cond := .code yX4_trim cX4_trim 2 (some .int) :: ((wsX4_trim_r1 ++ (wsX4_trim_r2 ++ wsX4_trim_r3)) ++ wsX40 ++ wsX10 ++ wsX30 ++ (vx_atS RX4 93 "java/lang/IndexOutOfBoundsException" ["java/lang/RuntimeException", "java/lang/Exception"]).filter goodWord ++ (vx_atM "java/lang/ArrayIndexOutOfBoundsException" ["java/lang/IndexOutOfBoundsException", "java/lang/RuntimeException", "java/lang/Exception"]).filter goodWord)
def wsX4_trimByTable_r1 : List Cond := [Cond.classLink RX4 89 "java/lang/IndexOutOfBoundsException", Cond.initialized "java/lang/IndexOutOfBoundsException", Cond.fieldLink RX4 34 "PaperMachine" "cutter" "LPaperMachine$Cutter;", Cond.fieldLink RX4 27 "PaperMachine" "orderBook" "LPaperMachine$OrderBook;", Cond.fieldLink RX4 13 "PaperMachine" "machineWidth" "I", Cond.methodLink RX4 86 yX4_isGrade, Cond.instanceMethod yX4_isGrade, Cond.selects RX4 yX4_isGrade yX4_isGrade, Cond.initialized RX4, Cond.code yX4_isGrade cX4_isGrade 2 (some .boolean), Cond.fieldLink RX4 70 "PaperMachine" "gradeCount" "I", Cond.methodLink RX4 151 yX1_load, Cond.instanceMethod yX1_load, Cond.selects RX1 yX1_load yX1_load, Cond.initialized RX1, Cond.code yX1_load cX1_load 7 none, Cond.methodLink RX1 30 Lib.Math.min.name, Cond.static Lib.Math.min.name, Cond.initialized "java/lang/Math", Cond.code Lib.Math.min.name Lib.Math.min.code 2 (some .int), Cond.methodLink RX1 36 Lib.Math.max.name, Cond.static Lib.Math.max.name, Cond.code Lib.Math.max.name Lib.Math.max.code 2 (some .int), Cond.fieldLink RX1 39 "PaperMachine$Cutter" "room" "I"]
def wsX4_trimByTable_r2 : List Cond := [Cond.fieldLink RX1 49 "PaperMachine$OrderBook" "grades" "[I", Cond.fieldLink RX1 18 "PaperMachine$Cutter" "widths" "[I", Cond.fieldLink RX1 52 "PaperMachine$OrderBook" "widths" "[I", Cond.fieldLink RX1 21 "PaperMachine$Cutter" "mostRolls" "[I", Cond.fieldLink RX1 53 "PaperMachine$OrderBook" "lacking" "[I", Cond.fieldLink RX1 24 "PaperMachine$Cutter" "widestFrom" "[I", Cond.methodLink RX1 43 yX3_has, Cond.instanceMethod yX3_has, Cond.selects RX3 yX3_has yX3_has, Cond.initialized RX3, Cond.code yX3_has cX3_has 2 (some .boolean), Cond.fieldLink RX3 24 "PaperMachine$OrderBook" "count" "I", Cond.methodLink RX4 158 yX1_sumByTable, Cond.instanceMethod yX1_sumByTable, Cond.selects RX1 yX1_sumByTable yX1_sumByTable, Cond.code yX1_sumByTable cX1_sumByTable 3 (some .int), Cond.fieldLink RX1 27 "PaperMachine$Cutter" "fewest" "[I", Cond.methodLink RX1 59 yJ7_fill_53178, Cond.static yJ7_fill_53178, Cond.initialized RJ7, Cond.code yJ7_fill_53178 cJ7_fill_53178 4 none, Cond.methodLink RX1 79 yX1_addRollToTable, Cond.instanceMethod yX1_addRollToTable, Cond.selects RX1 yX1_addRollToTable yX1_addRollToTable]
def wsX4_trimByTable_r3 : List Cond := [Cond.code yX1_addRollToTable cX1_addRollToTable 3 none]
def wsX4_trimByTable : List Cond := .code yX4_trimByTable cX4_trimByTable 2 (some .int) :: ((wsX4_trimByTable_r1 ++ (wsX4_trimByTable_r2 ++ wsX4_trimByTable_r3)) ++ wsX40 ++ wsX10 ++ wsX30 ++ (vx_atS RX4 93 "java/lang/IndexOutOfBoundsException" ["java/lang/RuntimeException", "java/lang/Exception"]).filter goodWord ++ (vx_atM "java/lang/ArrayIndexOutOfBoundsException" ["java/lang/IndexOutOfBoundsException", "java/lang/RuntimeException", "java/lang/Exception"]).filter goodWord)
def wsX4_inCut_r1 : List Cond := [Cond.classLink RX4 89 "java/lang/IndexOutOfBoundsException", Cond.initialized "java/lang/IndexOutOfBoundsException", Cond.fieldLink RX4 27 "PaperMachine" "orderBook" "LPaperMachine$OrderBook;", Cond.fieldLink RX4 34 "PaperMachine" "cutter" "LPaperMachine$Cutter;", Cond.fieldLink RX4 161 "PaperMachine$OrderBook" "grades" "[I", Cond.fieldLink RX4 13 "PaperMachine" "machineWidth" "I", Cond.fieldLink RX4 164 "PaperMachine$Cutter" "best" "[I", Cond.methodLink RX4 138 yX3_has, Cond.instanceMethod yX3_has, Cond.selects RX3 yX3_has yX3_has, Cond.initialized RX3, Cond.code yX3_has cX3_has 2 (some .boolean), Cond.fieldLink RX3 24 "PaperMachine$OrderBook" "count" "I", Cond.methodLink RX4 151 yX1_load, Cond.instanceMethod yX1_load, Cond.selects RX1 yX1_load yX1_load, Cond.initialized RX1, Cond.code yX1_load cX1_load 7 none, Cond.methodLink RX1 30 Lib.Math.min.name, Cond.static Lib.Math.min.name, Cond.initialized "java/lang/Math", Cond.code Lib.Math.min.name Lib.Math.min.code 2 (some .int), Cond.methodLink RX1 36 Lib.Math.max.name, Cond.static Lib.Math.max.name]
def wsX4_inCut_r2 : List Cond := [Cond.code Lib.Math.max.name Lib.Math.max.code 2 (some .int), Cond.fieldLink RX1 39 "PaperMachine$Cutter" "room" "I", Cond.fieldLink RX1 49 "PaperMachine$OrderBook" "grades" "[I", Cond.fieldLink RX1 18 "PaperMachine$Cutter" "widths" "[I", Cond.fieldLink RX1 52 "PaperMachine$OrderBook" "widths" "[I", Cond.fieldLink RX1 21 "PaperMachine$Cutter" "mostRolls" "[I", Cond.fieldLink RX1 53 "PaperMachine$OrderBook" "lacking" "[I", Cond.fieldLink RX1 24 "PaperMachine$Cutter" "widestFrom" "[I", Cond.methodLink RX1 43 yX3_has, Cond.methodLink RX4 155 yX1_sumBySearch, Cond.instanceMethod yX1_sumBySearch, Cond.selects RX1 yX1_sumBySearch yX1_sumBySearch, Cond.code yX1_sumBySearch cX1_sumBySearch 1 (some .int), Cond.fieldLink RX1 56 "PaperMachine$Cutter" "bestSum" "I", Cond.fieldLink RX1 9 "PaperMachine$Cutter" "best" "[I", Cond.methodLink RX1 59 yJ7_fill_53178, Cond.static yJ7_fill_53178, Cond.initialized RJ7, Cond.code yJ7_fill_53178 cJ7_fill_53178 4 none, Cond.methodLink RX1 65 yX1_search, Cond.static yX1_search, Cond.code yX1_search cX1_search 7 none, Cond.fieldLink RX1 15 "PaperMachine$Cutter" "trial" "[I", Cond.methodLink RX1 69 yX1_keepIfGreater]
def wsX4_inCut_r3 : List Cond := [Cond.instanceMethod yX1_keepIfGreater, Cond.selects RX1 yX1_keepIfGreater yX1_keepIfGreater, Cond.code yX1_keepIfGreater cX1_keepIfGreater 2 none, Cond.methodLink RX1 73 arraycopyName, Cond.native arraycopyName, Cond.static arraycopyName, Cond.initialized "java/lang/System"]
def wsX4_inCut : List Cond := .code yX4_inCut cX4_inCut 2 (some .int) :: ((wsX4_inCut_r1 ++ (wsX4_inCut_r2 ++ wsX4_inCut_r3)) ++ wsX40 ++ wsX30 ++ wsX10 ++ (vx_atS RX4 93 "java/lang/IndexOutOfBoundsException" ["java/lang/RuntimeException", "java/lang/Exception"]).filter goodWord ++ (vx_atM "java/lang/ArrayIndexOutOfBoundsException" ["java/lang/IndexOutOfBoundsException", "java/lang/RuntimeException", "java/lang/Exception"]).filter goodWord)
def wsX4_quotientUp : List Cond := .code yX4_quotientUp cX4_quotientUp 2 (some .int) :: ([] ++ (vx_atM "java/lang/ArithmeticException" ["java/lang/RuntimeException", "java/lang/Exception"]).filter goodWord)
def wsX4_leastHours_r1 : List Cond := [Cond.classLink RX4 89 "java/lang/IndexOutOfBoundsException", Cond.initialized "java/lang/IndexOutOfBoundsException", Cond.fieldLink RX4 27 "PaperMachine" "orderBook" "LPaperMachine$OrderBook;", Cond.fieldLink RX4 13 "PaperMachine" "machineWidth" "I", Cond.methodLink RX4 177 Lib.Math.max.name, Cond.static Lib.Math.max.name, Cond.initialized "java/lang/Math", Cond.code Lib.Math.max.name Lib.Math.max.code 2 (some .int), Cond.methodLink RX4 86 yX4_isGrade, Cond.instanceMethod yX4_isGrade, Cond.selects RX4 yX4_isGrade yX4_isGrade, Cond.initialized RX4, Cond.code yX4_isGrade cX4_isGrade 2 (some .boolean), Cond.fieldLink RX4 70 "PaperMachine" "gradeCount" "I", Cond.methodLink RX4 167 yX3_widthLacking, Cond.instanceMethod yX3_widthLacking, Cond.selects RX3 yX3_widthLacking yX3_widthLacking, Cond.initialized RX3, Cond.code yX3_widthLacking cX3_widthLacking 4 (some .int), Cond.fieldLink RX3 24 "PaperMachine$OrderBook" "count" "I", Cond.fieldLink RX3 9 "PaperMachine$OrderBook" "grades" "[I", Cond.fieldLink RX3 21 "PaperMachine$OrderBook" "lacking" "[I", Cond.fieldLink RX3 15 "PaperMachine$OrderBook" "widths" "[I", Cond.methodLink RX4 170 yX4_quotientUp]
def wsX4_leastHours_r2 : List Cond := [Cond.static yX4_quotientUp, Cond.code yX4_quotientUp cX4_quotientUp 2 (some .int), Cond.methodLink RX4 174 yX3_rollsLacking, Cond.instanceMethod yX3_rollsLacking, Cond.selects RX3 yX3_rollsLacking yX3_rollsLacking, Cond.code yX3_rollsLacking cX3_rollsLacking 4 (some .int)]
def wsX4_leastHours : List Cond := .code yX4_leastHours cX4_leastHours 4 (some .int) :: ((wsX4_leastHours_r1 ++ wsX4_leastHours_r2) ++ wsX40 ++ wsX30 ++ (vx_atS RX4 93 "java/lang/IndexOutOfBoundsException" ["java/lang/RuntimeException", "java/lang/Exception"]).filter goodWord ++ (vx_atM "java/lang/ArrayIndexOutOfBoundsException" ["java/lang/IndexOutOfBoundsException", "java/lang/RuntimeException", "java/lang/Exception"]).filter goodWord ++ (vx_atM "java/lang/ArithmeticException" ["java/lang/RuntimeException", "java/lang/Exception"]).filter goodWord)
def wsX4_setShare : List Cond := .code yX4_setShare cX4_setShare 3 (some .int) :: ([.classLink RX4 63 "java/lang/IllegalArgumentException", .initialized "java/lang/IllegalArgumentException", .fieldLink RX4 52 "PaperMachine" "share" "I", .methodLink RX4 55 yX4_isWithin, .static yX4_isWithin, .initialized RX4, .code yX4_isWithin cX4_isWithin 3 (some .boolean)] ++ wsX40 ++ (vx_atS RX4 67 "java/lang/IllegalArgumentException" ["java/lang/RuntimeException", "java/lang/Exception"]).filter goodWord)
def wsX4_setContract : List Cond := .code yX4_setContract cX4_setContract 5 (some .int) :: ([.classLink RX4 63 "java/lang/IllegalArgumentException", .initialized "java/lang/IllegalArgumentException", .fieldLink RX4 41 "PaperMachine" "contract" "LPaperMachine$Contract;", .fieldLink RX4 184 "PaperMachine$Contract" "limit" "I", .fieldLink RX4 187 "PaperMachine$Contract" "firstPrice" "I", .fieldLink RX4 190 "PaperMachine$Contract" "secondPrice" "I", .methodLink RX4 55 yX4_isWithin, .static yX4_isWithin, .initialized RX4, .code yX4_isWithin cX4_isWithin 3 (some .boolean)] ++ wsX40 ++ wsX00 ++ (vx_atS RX4 67 "java/lang/IllegalArgumentException" ["java/lang/RuntimeException", "java/lang/Exception"]).filter goodWord)
def wsX4_make_r1 : List Cond := [Cond.fieldLink RX4 203 "PaperMachine" "brokeKept" "I", Cond.fieldLink RX4 52 "PaperMachine" "share" "I", Cond.methodLink RX4 263 Lib.Math.min.name, Cond.static Lib.Math.min.name, Cond.initialized "java/lang/Math", Cond.code Lib.Math.min.name Lib.Math.min.code 2 (some .int), Cond.fieldLink RX4 48 "PaperMachine" "hourBook" "LPaperMachine$HourBook;", Cond.fieldLink RX4 229 "PaperMachine$HourBook" "massSum" "J", Cond.fieldLink RX4 226 "PaperMachine" "steamSum" "J", Cond.fieldLink RX4 41 "PaperMachine" "contract" "LPaperMachine$Contract;", Cond.methodLink RX4 266 yX2_writeMade, Cond.instanceMethod yX2_writeMade, Cond.selects RX2 yX2_writeMade yX2_writeMade, Cond.initialized RX2, Cond.code yX2_writeMade cX2_writeMade 5 none, Cond.fieldLink RX2 25 "PaperMachine$HourBook" "count" "I", Cond.fieldLink RX2 9 "PaperMachine$HourBook" "kinds" "[C", Cond.fieldLink RX2 15 "PaperMachine$HourBook" "freshIn" "[I", Cond.fieldLink RX2 19 "PaperMachine$HourBook" "paperOut" "[I", Cond.fieldLink RX2 22 "PaperMachine$HourBook" "lossOut" "[I", Cond.fieldLink RX2 33 "PaperMachine$HourBook" "freshSum" "J", Cond.fieldLink RX2 37 "PaperMachine$HourBook" "paperSum" "J", Cond.fieldLink RX2 40 "PaperMachine$HourBook" "lossSum" "J", Cond.methodLink RX4 270 yX0_cost]
def wsX4_make_r2 : List Cond := [Cond.instanceMethod yX0_cost, Cond.selects RX0 yX0_cost yX0_cost, Cond.initialized RX0, Cond.code yX0_cost cX0_cost 3 (some .long), Cond.fieldLink RX0 7 "PaperMachine$Contract" "limit" "I", Cond.methodLink RX0 19 Lib.Math.min.name, Cond.fieldLink RX0 13 "PaperMachine$Contract" "firstPrice" "I", Cond.fieldLink RX0 16 "PaperMachine$Contract" "secondPrice" "I"]
def wsX4_make : List Cond := .code yX4_make cX4_make 7 none :: ((wsX4_make_r1 ++ wsX4_make_r2) ++ wsX40 ++ wsX20 ++ wsX00 ++ (vx_atM "java/lang/ArrayIndexOutOfBoundsException" ["java/lang/IndexOutOfBoundsException", "java/lang/RuntimeException", "java/lang/Exception"]).filter goodWord)
def wsX4_quotient : List Cond := .code yX4_quotient cX4_quotient 2 (some .int) :: ([] ++ (vx_atM "java/lang/ArithmeticException" ["java/lang/RuntimeException", "java/lang/Exception"]).filter goodWord)
def wsX4_passAnHour_r1 : List Cond := [Cond.fieldLink RX4 17 "PaperMachine" "machineGrade" "I", Cond.fieldLink RX4 48 "PaperMachine" "hourBook" "LPaperMachine$HourBook;", Cond.fieldLink RX4 96 "PaperMachine" "changeHours" "I", Cond.fieldLink RX4 34 "PaperMachine" "cutter" "LPaperMachine$Cutter;", Cond.fieldLink RX4 27 "PaperMachine" "orderBook" "LPaperMachine$OrderBook;", Cond.fieldLink RX4 13 "PaperMachine" "machineWidth" "I", Cond.fieldLink RX4 164 "PaperMachine$Cutter" "best" "[I", Cond.methodLink RX4 86 yX4_isGrade, Cond.instanceMethod yX4_isGrade, Cond.selects RX4 yX4_isGrade yX4_isGrade, Cond.initialized RX4, Cond.code yX4_isGrade cX4_isGrade 2 (some .boolean), Cond.fieldLink RX4 70 "PaperMachine" "gradeCount" "I", Cond.methodLink RX4 245 yX2_writeNothing, Cond.instanceMethod yX2_writeNothing, Cond.selects RX2 yX2_writeNothing yX2_writeNothing, Cond.initialized RX2, Cond.code yX2_writeNothing cX2_writeNothing 1 none, Cond.methodLink RX2 29 yX2_writeMade, Cond.instanceMethod yX2_writeMade, Cond.selects RX2 yX2_writeMade yX2_writeMade, Cond.code yX2_writeMade cX2_writeMade 5 none, Cond.fieldLink RX2 25 "PaperMachine$HourBook" "count" "I", Cond.fieldLink RX2 9 "PaperMachine$HourBook" "kinds" "[C"]
def wsX4_passAnHour_r2 : List Cond := [Cond.fieldLink RX2 15 "PaperMachine$HourBook" "freshIn" "[I", Cond.fieldLink RX2 19 "PaperMachine$HourBook" "paperOut" "[I", Cond.fieldLink RX2 22 "PaperMachine$HourBook" "lossOut" "[I", Cond.fieldLink RX2 33 "PaperMachine$HourBook" "freshSum" "J", Cond.fieldLink RX2 37 "PaperMachine$HourBook" "paperSum" "J", Cond.fieldLink RX2 40 "PaperMachine$HourBook" "lossSum" "J", Cond.methodLink RX4 118 yX4_massOfAnHour, Cond.instanceMethod yX4_massOfAnHour, Cond.selects RX4 yX4_massOfAnHour yX4_massOfAnHour, Cond.code yX4_massOfAnHour cX4_massOfAnHour 2 (some .int), Cond.fieldLink RX4 9 "PaperMachine" "weights" "[I", Cond.methodLink RX4 248 yX4_make, Cond.instanceMethod yX4_make, Cond.selects RX4 yX4_make yX4_make, Cond.code yX4_make cX4_make 7 none, Cond.fieldLink RX4 203 "PaperMachine" "brokeKept" "I", Cond.fieldLink RX4 52 "PaperMachine" "share" "I", Cond.methodLink RX4 263 Lib.Math.min.name, Cond.static Lib.Math.min.name, Cond.initialized "java/lang/Math", Cond.code Lib.Math.min.name Lib.Math.min.code 2 (some .int), Cond.fieldLink RX4 229 "PaperMachine$HourBook" "massSum" "J", Cond.fieldLink RX4 226 "PaperMachine" "steamSum" "J", Cond.fieldLink RX4 41 "PaperMachine" "contract" "LPaperMachine$Contract;"]
def wsX4_passAnHour_r3 : List Cond := [Cond.methodLink RX4 266 yX2_writeMade, Cond.methodLink RX4 270 yX0_cost, Cond.instanceMethod yX0_cost, Cond.selects RX0 yX0_cost yX0_cost, Cond.initialized RX0, Cond.code yX0_cost cX0_cost 3 (some .long), Cond.fieldLink RX0 7 "PaperMachine$Contract" "limit" "I", Cond.methodLink RX0 19 Lib.Math.min.name, Cond.fieldLink RX0 13 "PaperMachine$Contract" "firstPrice" "I", Cond.fieldLink RX0 16 "PaperMachine$Contract" "secondPrice" "I", Cond.methodLink RX4 151 yX1_load, Cond.instanceMethod yX1_load, Cond.selects RX1 yX1_load yX1_load, Cond.initialized RX1, Cond.code yX1_load cX1_load 7 none, Cond.methodLink RX1 30 Lib.Math.min.name, Cond.methodLink RX1 36 Lib.Math.max.name, Cond.static Lib.Math.max.name, Cond.code Lib.Math.max.name Lib.Math.max.code 2 (some .int), Cond.fieldLink RX1 39 "PaperMachine$Cutter" "room" "I", Cond.fieldLink RX1 49 "PaperMachine$OrderBook" "grades" "[I", Cond.fieldLink RX1 18 "PaperMachine$Cutter" "widths" "[I", Cond.fieldLink RX1 52 "PaperMachine$OrderBook" "widths" "[I", Cond.fieldLink RX1 21 "PaperMachine$Cutter" "mostRolls" "[I"]
def wsX4_passAnHour_r4 : List Cond := [Cond.fieldLink RX1 53 "PaperMachine$OrderBook" "lacking" "[I", Cond.fieldLink RX1 24 "PaperMachine$Cutter" "widestFrom" "[I", Cond.methodLink RX1 43 yX3_has, Cond.instanceMethod yX3_has, Cond.selects RX3 yX3_has yX3_has, Cond.initialized RX3, Cond.code yX3_has cX3_has 2 (some .boolean), Cond.fieldLink RX3 24 "PaperMachine$OrderBook" "count" "I", Cond.methodLink RX4 155 yX1_sumBySearch, Cond.instanceMethod yX1_sumBySearch, Cond.selects RX1 yX1_sumBySearch yX1_sumBySearch, Cond.code yX1_sumBySearch cX1_sumBySearch 1 (some .int), Cond.fieldLink RX1 56 "PaperMachine$Cutter" "bestSum" "I", Cond.fieldLink RX1 9 "PaperMachine$Cutter" "best" "[I", Cond.methodLink RX1 59 yJ7_fill_53178, Cond.static yJ7_fill_53178, Cond.initialized RJ7, Cond.code yJ7_fill_53178 cJ7_fill_53178 4 none, Cond.methodLink RX1 65 yX1_search, Cond.static yX1_search, Cond.code yX1_search cX1_search 7 none, Cond.fieldLink RX1 15 "PaperMachine$Cutter" "trial" "[I", Cond.methodLink RX1 69 yX1_keepIfGreater, Cond.instanceMethod yX1_keepIfGreater]
def wsX4_passAnHour_r5 : List Cond := [Cond.selects RX1 yX1_keepIfGreater yX1_keepIfGreater, Cond.code yX1_keepIfGreater cX1_keepIfGreater 2 none, Cond.methodLink RX1 73 arraycopyName, Cond.native arraycopyName, Cond.static arraycopyName, Cond.initialized "java/lang/System", Cond.methodLink RX4 252 yX4_quotient, Cond.static yX4_quotient, Cond.code yX4_quotient cX4_quotient 2 (some .int), Cond.methodLink RX4 255 yX2_writeTrim, Cond.instanceMethod yX2_writeTrim, Cond.selects RX2 yX2_writeTrim yX2_writeTrim, Cond.code yX2_writeTrim cX2_writeTrim 2 none, Cond.fieldLink RX2 43 "PaperMachine$HourBook" "trimSum" "J", Cond.fieldLink RX2 46 "PaperMachine$HourBook" "paperHours" "I", Cond.methodLink RX4 259 yX3_takeOff, Cond.instanceMethod yX3_takeOff, Cond.selects RX3 yX3_takeOff yX3_takeOff, Cond.code yX3_takeOff cX3_takeOff 4 (some .int), Cond.fieldLink RX3 18 "PaperMachine$OrderBook" "rollsCut" "[I", Cond.fieldLink RX3 21 "PaperMachine$OrderBook" "lacking" "[I"]
def wsX4_passAnHour : List Cond := .code yX4_passAnHour cX4_passAnHour 4 (some .int) :: ((wsX4_passAnHour_r1 ++ (wsX4_passAnHour_r2 ++ (wsX4_passAnHour_r3 ++ (wsX4_passAnHour_r4 ++ wsX4_passAnHour_r5)))) ++ wsX40 ++ wsX10 ++ wsX20 ++ wsX00 ++ wsX30 ++ (vx_atM "java/lang/ArrayIndexOutOfBoundsException" ["java/lang/IndexOutOfBoundsException", "java/lang/RuntimeException", "java/lang/Exception"]).filter goodWord ++ (vx_atM "java/lang/ArithmeticException" ["java/lang/RuntimeException", "java/lang/Exception"]).filter goodWord)
def wsX4_pass_r1 : List Cond := [Cond.classLink RX4 63 "java/lang/IllegalArgumentException", Cond.initialized "java/lang/IllegalArgumentException", Cond.classLink RX4 73 "java/lang/IllegalStateException", Cond.initialized "java/lang/IllegalStateException", Cond.fieldLink RX4 48 "PaperMachine" "hourBook" "LPaperMachine$HourBook;", Cond.fieldLink RX4 195 "PaperMachine$HourBook" "count" "I", Cond.methodLink RX4 55 yX4_isWithin, Cond.static yX4_isWithin, Cond.initialized RX4, Cond.code yX4_isWithin cX4_isWithin 3 (some .boolean), Cond.methodLink RX4 200 yX4_passAnHour, Cond.instanceMethod yX4_passAnHour, Cond.selects RX4 yX4_passAnHour yX4_passAnHour, Cond.code yX4_passAnHour cX4_passAnHour 4 (some .int), Cond.fieldLink RX4 17 "PaperMachine" "machineGrade" "I", Cond.fieldLink RX4 96 "PaperMachine" "changeHours" "I", Cond.fieldLink RX4 34 "PaperMachine" "cutter" "LPaperMachine$Cutter;", Cond.fieldLink RX4 27 "PaperMachine" "orderBook" "LPaperMachine$OrderBook;", Cond.fieldLink RX4 13 "PaperMachine" "machineWidth" "I", Cond.fieldLink RX4 164 "PaperMachine$Cutter" "best" "[I", Cond.methodLink RX4 86 yX4_isGrade, Cond.instanceMethod yX4_isGrade, Cond.selects RX4 yX4_isGrade yX4_isGrade, Cond.code yX4_isGrade cX4_isGrade 2 (some .boolean)]
def wsX4_pass_r2 : List Cond := [Cond.fieldLink RX4 70 "PaperMachine" "gradeCount" "I", Cond.methodLink RX4 245 yX2_writeNothing, Cond.instanceMethod yX2_writeNothing, Cond.selects RX2 yX2_writeNothing yX2_writeNothing, Cond.initialized RX2, Cond.code yX2_writeNothing cX2_writeNothing 1 none, Cond.methodLink RX2 29 yX2_writeMade, Cond.instanceMethod yX2_writeMade, Cond.selects RX2 yX2_writeMade yX2_writeMade, Cond.code yX2_writeMade cX2_writeMade 5 none, Cond.fieldLink RX2 25 "PaperMachine$HourBook" "count" "I", Cond.fieldLink RX2 9 "PaperMachine$HourBook" "kinds" "[C", Cond.fieldLink RX2 15 "PaperMachine$HourBook" "freshIn" "[I", Cond.fieldLink RX2 19 "PaperMachine$HourBook" "paperOut" "[I", Cond.fieldLink RX2 22 "PaperMachine$HourBook" "lossOut" "[I", Cond.fieldLink RX2 33 "PaperMachine$HourBook" "freshSum" "J", Cond.fieldLink RX2 37 "PaperMachine$HourBook" "paperSum" "J", Cond.fieldLink RX2 40 "PaperMachine$HourBook" "lossSum" "J", Cond.methodLink RX4 118 yX4_massOfAnHour, Cond.instanceMethod yX4_massOfAnHour, Cond.selects RX4 yX4_massOfAnHour yX4_massOfAnHour, Cond.code yX4_massOfAnHour cX4_massOfAnHour 2 (some .int), Cond.fieldLink RX4 9 "PaperMachine" "weights" "[I", Cond.methodLink RX4 248 yX4_make]
def wsX4_pass_r3 : List Cond := [Cond.instanceMethod yX4_make, Cond.selects RX4 yX4_make yX4_make, Cond.code yX4_make cX4_make 7 none, Cond.fieldLink RX4 203 "PaperMachine" "brokeKept" "I", Cond.fieldLink RX4 52 "PaperMachine" "share" "I", Cond.methodLink RX4 263 Lib.Math.min.name, Cond.static Lib.Math.min.name, Cond.initialized "java/lang/Math", Cond.code Lib.Math.min.name Lib.Math.min.code 2 (some .int), Cond.fieldLink RX4 229 "PaperMachine$HourBook" "massSum" "J", Cond.fieldLink RX4 226 "PaperMachine" "steamSum" "J", Cond.fieldLink RX4 41 "PaperMachine" "contract" "LPaperMachine$Contract;", Cond.methodLink RX4 266 yX2_writeMade, Cond.methodLink RX4 270 yX0_cost, Cond.instanceMethod yX0_cost, Cond.selects RX0 yX0_cost yX0_cost, Cond.initialized RX0, Cond.code yX0_cost cX0_cost 3 (some .long), Cond.fieldLink RX0 7 "PaperMachine$Contract" "limit" "I", Cond.methodLink RX0 19 Lib.Math.min.name, Cond.fieldLink RX0 13 "PaperMachine$Contract" "firstPrice" "I", Cond.fieldLink RX0 16 "PaperMachine$Contract" "secondPrice" "I", Cond.methodLink RX4 151 yX1_load, Cond.instanceMethod yX1_load]
def wsX4_pass_r4 : List Cond := [Cond.selects RX1 yX1_load yX1_load, Cond.initialized RX1, Cond.code yX1_load cX1_load 7 none, Cond.methodLink RX1 30 Lib.Math.min.name, Cond.methodLink RX1 36 Lib.Math.max.name, Cond.static Lib.Math.max.name, Cond.code Lib.Math.max.name Lib.Math.max.code 2 (some .int), Cond.fieldLink RX1 39 "PaperMachine$Cutter" "room" "I", Cond.fieldLink RX1 49 "PaperMachine$OrderBook" "grades" "[I", Cond.fieldLink RX1 18 "PaperMachine$Cutter" "widths" "[I", Cond.fieldLink RX1 52 "PaperMachine$OrderBook" "widths" "[I", Cond.fieldLink RX1 21 "PaperMachine$Cutter" "mostRolls" "[I", Cond.fieldLink RX1 53 "PaperMachine$OrderBook" "lacking" "[I", Cond.fieldLink RX1 24 "PaperMachine$Cutter" "widestFrom" "[I", Cond.methodLink RX1 43 yX3_has, Cond.instanceMethod yX3_has, Cond.selects RX3 yX3_has yX3_has, Cond.initialized RX3, Cond.code yX3_has cX3_has 2 (some .boolean), Cond.fieldLink RX3 24 "PaperMachine$OrderBook" "count" "I", Cond.methodLink RX4 155 yX1_sumBySearch, Cond.instanceMethod yX1_sumBySearch, Cond.selects RX1 yX1_sumBySearch yX1_sumBySearch, Cond.code yX1_sumBySearch cX1_sumBySearch 1 (some .int)]
def wsX4_pass_r5 : List Cond := [Cond.fieldLink RX1 56 "PaperMachine$Cutter" "bestSum" "I", Cond.fieldLink RX1 9 "PaperMachine$Cutter" "best" "[I", Cond.methodLink RX1 59 yJ7_fill_53178, Cond.static yJ7_fill_53178, Cond.initialized RJ7, Cond.code yJ7_fill_53178 cJ7_fill_53178 4 none, Cond.methodLink RX1 65 yX1_search, Cond.static yX1_search, Cond.code yX1_search cX1_search 7 none, Cond.fieldLink RX1 15 "PaperMachine$Cutter" "trial" "[I", Cond.methodLink RX1 69 yX1_keepIfGreater, Cond.instanceMethod yX1_keepIfGreater, Cond.selects RX1 yX1_keepIfGreater yX1_keepIfGreater, Cond.code yX1_keepIfGreater cX1_keepIfGreater 2 none, Cond.methodLink RX1 73 arraycopyName, Cond.native arraycopyName, Cond.static arraycopyName, Cond.initialized "java/lang/System", Cond.methodLink RX4 252 yX4_quotient, Cond.static yX4_quotient, Cond.code yX4_quotient cX4_quotient 2 (some .int), Cond.methodLink RX4 255 yX2_writeTrim, Cond.instanceMethod yX2_writeTrim, Cond.selects RX2 yX2_writeTrim yX2_writeTrim]
def wsX4_pass_r6 : List Cond := [Cond.code yX2_writeTrim cX2_writeTrim 2 none, Cond.fieldLink RX2 43 "PaperMachine$HourBook" "trimSum" "J", Cond.fieldLink RX2 46 "PaperMachine$HourBook" "paperHours" "I", Cond.methodLink RX4 259 yX3_takeOff, Cond.instanceMethod yX3_takeOff, Cond.selects RX3 yX3_takeOff yX3_takeOff, Cond.code yX3_takeOff cX3_takeOff 4 (some .int), Cond.fieldLink RX3 18 "PaperMachine$OrderBook" "rollsCut" "[I", Cond.fieldLink RX3 21 "PaperMachine$OrderBook" "lacking" "[I"]
def wsX4_pass : List Cond := .code yX4_pass cX4_pass 4 (some .int) :: ((wsX4_pass_r1 ++ (wsX4_pass_r2 ++ (wsX4_pass_r3 ++ (wsX4_pass_r4 ++ (wsX4_pass_r5 ++ wsX4_pass_r6))))) ++ wsX40 ++ wsX20 ++ wsX10 ++ wsX00 ++ wsX30 ++ (vx_atS RX4 67 "java/lang/IllegalArgumentException" ["java/lang/RuntimeException", "java/lang/Exception"]).filter goodWord ++ (vx_atS RX4 77 "java/lang/IllegalStateException" ["java/lang/RuntimeException", "java/lang/Exception"]).filter goodWord ++ (vx_atM "java/lang/ArrayIndexOutOfBoundsException" ["java/lang/IndexOutOfBoundsException", "java/lang/RuntimeException", "java/lang/Exception"]).filter goodWord ++ (vx_atM "java/lang/ArithmeticException" ["java/lang/RuntimeException", "java/lang/Exception"]).filter goodWord)
def wsX4_hours : List Cond := .code yX4_hours cX4_hours 1 (some .int) :: ([.fieldLink RX4 48 "PaperMachine" "hourBook" "LPaperMachine$HourBook;", .fieldLink RX4 195 "PaperMachine$HourBook" "count" "I"] ++ wsX40 ++ wsX20)
def wsX4_broke : List Cond := .code yX4_broke cX4_broke 1 (some .int) :: ([.fieldLink RX4 203 "PaperMachine" "brokeKept" "I"] ++ wsX40)
def wsX4_brokeByHours : List Cond := .code yX4_brokeByHours cX4_brokeByHours 1 (some .int) :: ([.fieldLink RX4 48 "PaperMachine" "hourBook" "LPaperMachine$HourBook;", .methodLink RX4 206 yX2_fibreStillThere, .instanceMethod yX2_fibreStillThere, .selects RX2 yX2_fibreStillThere yX2_fibreStillThere, .initialized RX2, .code yX2_fibreStillThere cX2_fibreStillThere 3 (some .int), .fieldLink RX2 25 "PaperMachine$HourBook" "count" "I", .fieldLink RX2 15 "PaperMachine$HourBook" "freshIn" "[I", .fieldLink RX2 19 "PaperMachine$HourBook" "paperOut" "[I", .fieldLink RX2 22 "PaperMachine$HourBook" "lossOut" "[I"] ++ wsX40 ++ wsX20 ++ (vx_atM "java/lang/ArrayIndexOutOfBoundsException" ["java/lang/IndexOutOfBoundsException", "java/lang/RuntimeException", "java/lang/Exception"]).filter goodWord)
def wsX4_fresh : List Cond := .code yX4_fresh cX4_fresh 1 (some .long) :: ([.fieldLink RX4 48 "PaperMachine" "hourBook" "LPaperMachine$HourBook;", .fieldLink RX4 209 "PaperMachine$HourBook" "freshSum" "J"] ++ wsX40 ++ wsX20)
def wsX4_paper : List Cond := .code yX4_paper cX4_paper 1 (some .long) :: ([.fieldLink RX4 48 "PaperMachine" "hourBook" "LPaperMachine$HourBook;", .fieldLink RX4 213 "PaperMachine$HourBook" "paperSum" "J"] ++ wsX40 ++ wsX20)
def wsX4_lost : List Cond := .code yX4_lost cX4_lost 1 (some .long) :: ([.fieldLink RX4 48 "PaperMachine" "hourBook" "LPaperMachine$HourBook;", .fieldLink RX4 216 "PaperMachine$HourBook" "lossSum" "J"] ++ wsX40 ++ wsX20)
def wsX4_made : List Cond := .code yX4_made cX4_made 2 (some .char) :: ([.classLink RX4 89 "java/lang/IndexOutOfBoundsException", .initialized "java/lang/IndexOutOfBoundsException", .fieldLink RX4 48 "PaperMachine" "hourBook" "LPaperMachine$HourBook;", .fieldLink RX4 222 "PaperMachine$HourBook" "kinds" "[C", .methodLink RX4 219 yX2_has, .instanceMethod yX2_has, .selects RX2 yX2_has yX2_has, .initialized RX2, .code yX2_has cX2_has 2 (some .boolean), .fieldLink RX2 25 "PaperMachine$HourBook" "count" "I"] ++ wsX40 ++ wsX20 ++ (vx_atS RX4 93 "java/lang/IndexOutOfBoundsException" ["java/lang/RuntimeException", "java/lang/Exception"]).filter goodWord ++ (vx_atM "java/lang/ArrayIndexOutOfBoundsException" ["java/lang/IndexOutOfBoundsException", "java/lang/RuntimeException", "java/lang/Exception"]).filter goodWord)
def wsX4_steamCost : List Cond := .code yX4_steamCost cX4_steamCost 1 (some .long) :: ([.fieldLink RX4 226 "PaperMachine" "steamSum" "J"] ++ wsX40)
def wsX4_paperShare : List Cond := .code yX4_paperShare cX4_paperShare 1 (some .float) :: ([.classLink RX4 232 "java/lang/ArithmeticException", .initialized "java/lang/ArithmeticException", .fieldLink RX4 48 "PaperMachine" "hourBook" "LPaperMachine$HourBook;", .fieldLink RX4 229 "PaperMachine$HourBook" "massSum" "J", .fieldLink RX4 213 "PaperMachine$HourBook" "paperSum" "J"] ++ wsX40 ++ wsX20 ++ (vx_atS RX4 236 "java/lang/ArithmeticException" ["java/lang/RuntimeException", "java/lang/Exception"]).filter goodWord)
def wsX4_meanTrim : List Cond := .code yX4_meanTrim cX4_meanTrim 1 (some .double) :: ([.classLink RX4 232 "java/lang/ArithmeticException", .initialized "java/lang/ArithmeticException", .fieldLink RX4 48 "PaperMachine" "hourBook" "LPaperMachine$HourBook;", .fieldLink RX4 237 "PaperMachine$HourBook" "paperHours" "I", .fieldLink RX4 242 "PaperMachine$HourBook" "trimSum" "J"] ++ wsX40 ++ wsX20 ++ (vx_atS RX4 236 "java/lang/ArithmeticException" ["java/lang/RuntimeException", "java/lang/Exception"]).filter goodWord)
def wsX5_init : List Cond := .code yX5_init cX5_init 1 none :: ([.methodLink RX5 1 objectInit, .instanceMethod objectInit, .code objectInit ⟨#[0xb1]⟩ 1 none, .arrayClass .int, .fieldLink RX5 9 "PaperMachineModel" "weight" "[I", .fieldLink RX5 13 "PaperMachineModel" "width" "I", .fieldLink RX5 17 "PaperMachineModel" "grade" "I", .fieldLink RX5 20 "PaperMachineModel" "isUp" "Z", .fieldLink RX5 24 "PaperMachineModel" "orderGrade" "[I", .fieldLink RX5 27 "PaperMachineModel" "orderWidth" "[I", .fieldLink RX5 30 "PaperMachineModel" "lacks" "[I", .fieldLink RX5 33 "PaperMachineModel" "cut" "[I", .fieldLink RX5 36 "PaperMachineModel" "share" "I", .fieldLink RX5 39 "PaperMachineModel" "limit" "I", .fieldLink RX5 42 "PaperMachineModel" "firstPrice" "I", .fieldLink RX5 45 "PaperMachineModel" "secondPrice" "I", .arrayClass .char, .fieldLink RX5 48 "PaperMachineModel" "made" "[C", .fieldLink RX5 52 "PaperMachineModel" "trial" "[I", .fieldLink RX5 55 "PaperMachineModel" "inCut" "[I"] ++ wsX50)
def wsX5_thrown : List Cond := .code yX5_thrown cX5_thrown 1 (some .int) :: ([.fieldLink RX5 58 "PaperMachineModel" "thrown" "I"] ++ wsX50)
def wsX5_in : List Cond := .code yX5_in cX5_in 3 (some .boolean) :: ([])
def wsX5_goesOn : List Cond := .code yX5_goesOn cX5_goesOn 2 (some .boolean) :: ([.fieldLink RX5 58 "PaperMachineModel" "thrown" "I"] ++ wsX50)
def wsX5_isGrade : List Cond := .code yX5_isGrade cX5_isGrade 2 (some .boolean) :: ([.fieldLink RX5 61 "PaperMachineModel" "grades" "I", .methodLink RX5 64 yX5_in, .static yX5_in, .initialized RX5, .code yX5_in cX5_in 3 (some .boolean)] ++ wsX50)
def wsX5_isOrder : List Cond := .code yX5_isOrder cX5_isOrder 2 (some .boolean) :: ([.fieldLink RX5 68 "PaperMachineModel" "orders" "I", .methodLink RX5 64 yX5_in, .static yX5_in, .initialized RX5, .code yX5_in cX5_in 3 (some .boolean)] ++ wsX50)
def wsX5_hasWeight : List Cond := .code yX5_hasWeight cX5_hasWeight 4 (some .boolean) :: ([.fieldLink RX5 61 "PaperMachineModel" "grades" "I", .fieldLink RX5 9 "PaperMachineModel" "weight" "[I"] ++ wsX50 ++ (vx_atM "java/lang/ArrayIndexOutOfBoundsException" ["java/lang/IndexOutOfBoundsException", "java/lang/RuntimeException", "java/lang/Exception"]).filter goodWord)
def wsX5_addGrade : List Cond := .code yX5_addGrade cX5_addGrade 2 (some .int) :: ([.fieldLink RX5 61 "PaperMachineModel" "grades" "I", .fieldLink RX5 9 "PaperMachineModel" "weight" "[I", .methodLink RX5 64 yX5_in, .static yX5_in, .initialized RX5, .code yX5_in cX5_in 3 (some .boolean), .methodLink RX5 71 yX5_hasWeight, .instanceMethod yX5_hasWeight, .selects RX5 yX5_hasWeight yX5_hasWeight, .code yX5_hasWeight cX5_hasWeight 4 (some .boolean), .methodLink RX5 75 yX5_goesOn, .instanceMethod yX5_goesOn, .selects RX5 yX5_goesOn yX5_goesOn, .code yX5_goesOn cX5_goesOn 2 (some .boolean), .fieldLink RX5 58 "PaperMachineModel" "thrown" "I"] ++ wsX50 ++ (vx_atM "java/lang/ArrayIndexOutOfBoundsException" ["java/lang/IndexOutOfBoundsException", "java/lang/RuntimeException", "java/lang/Exception"]).filter goodWord)
def wsX5_setWidth : List Cond := .code yX5_setWidth cX5_setWidth 4 (some .int) :: ([.fieldLink RX5 68 "PaperMachineModel" "orders" "I", .fieldLink RX5 30 "PaperMachineModel" "lacks" "[I", .fieldLink RX5 27 "PaperMachineModel" "orderWidth" "[I", .fieldLink RX5 13 "PaperMachineModel" "width" "I", .methodLink RX5 64 yX5_in, .static yX5_in, .initialized RX5, .code yX5_in cX5_in 3 (some .boolean), .methodLink RX5 75 yX5_goesOn, .instanceMethod yX5_goesOn, .selects RX5 yX5_goesOn yX5_goesOn, .code yX5_goesOn cX5_goesOn 2 (some .boolean), .fieldLink RX5 58 "PaperMachineModel" "thrown" "I"] ++ wsX50 ++ (vx_atM "java/lang/ArrayIndexOutOfBoundsException" ["java/lang/IndexOutOfBoundsException", "java/lang/RuntimeException", "java/lang/Exception"]).filter goodWord)
def wsX5_change : List Cond := .code yX5_change cX5_change 3 (some .int) :: ([.fieldLink RX5 17 "PaperMachineModel" "grade" "I", .fieldLink RX5 81 "PaperMachineModel" "changing" "I", .fieldLink RX5 9 "PaperMachineModel" "weight" "[I", .fieldLink RX5 20 "PaperMachineModel" "isUp" "Z", .methodLink RX5 78 yX5_isGrade, .instanceMethod yX5_isGrade, .selects RX5 yX5_isGrade yX5_isGrade, .initialized RX5, .code yX5_isGrade cX5_isGrade 2 (some .boolean), .fieldLink RX5 61 "PaperMachineModel" "grades" "I", .methodLink RX5 64 yX5_in, .static yX5_in, .code yX5_in cX5_in 3 (some .boolean), .methodLink RX5 75 yX5_goesOn, .instanceMethod yX5_goesOn, .selects RX5 yX5_goesOn yX5_goesOn, .code yX5_goesOn cX5_goesOn 2 (some .boolean), .fieldLink RX5 58 "PaperMachineModel" "thrown" "I"] ++ wsX50 ++ (vx_atM "java/lang/ArrayIndexOutOfBoundsException" ["java/lang/IndexOutOfBoundsException", "java/lang/RuntimeException", "java/lang/Exception"]).filter goodWord)
def wsX5_grade : List Cond := .code yX5_grade cX5_grade 1 (some .int) :: ([.fieldLink RX5 17 "PaperMachineModel" "grade" "I", .methodLink RX5 75 yX5_goesOn, .instanceMethod yX5_goesOn, .selects RX5 yX5_goesOn yX5_goesOn, .initialized RX5, .code yX5_goesOn cX5_goesOn 2 (some .boolean), .fieldLink RX5 58 "PaperMachineModel" "thrown" "I"] ++ wsX50)
def wsX5_changing : List Cond := .code yX5_changing cX5_changing 1 (some .int) :: ([.fieldLink RX5 58 "PaperMachineModel" "thrown" "I", .fieldLink RX5 81 "PaperMachineModel" "changing" "I"] ++ wsX50)
def wsX5_hasOrders : List Cond := .code yX5_hasOrders cX5_hasOrders 4 (some .boolean) :: ([.fieldLink RX5 68 "PaperMachineModel" "orders" "I", .fieldLink RX5 24 "PaperMachineModel" "orderGrade" "[I", .fieldLink RX5 30 "PaperMachineModel" "lacks" "[I"] ++ wsX50 ++ (vx_atM "java/lang/ArrayIndexOutOfBoundsException" ["java/lang/IndexOutOfBoundsException", "java/lang/RuntimeException", "java/lang/Exception"]).filter goodWord)
def wsX5_nextFrom : List Cond := .code yX5_nextFrom cX5_nextFrom 7 (some .int) :: ([.fieldLink RX5 61 "PaperMachineModel" "grades" "I", .fieldLink RX5 9 "PaperMachineModel" "weight" "[I", .methodLink RX5 84 yX5_hasOrders, .instanceMethod yX5_hasOrders, .selects RX5 yX5_hasOrders yX5_hasOrders, .initialized RX5, .code yX5_hasOrders cX5_hasOrders 4 (some .boolean), .fieldLink RX5 68 "PaperMachineModel" "orders" "I", .fieldLink RX5 24 "PaperMachineModel" "orderGrade" "[I", .fieldLink RX5 30 "PaperMachineModel" "lacks" "[I"] ++ wsX50 ++ (vx_atM "java/lang/ArrayIndexOutOfBoundsException" ["java/lang/IndexOutOfBoundsException", "java/lang/RuntimeException", "java/lang/Exception"]).filter goodWord)
def wsX5_next : List Cond := .code yX5_next cX5_next 2 (some .int) :: ([.fieldLink RX5 17 "PaperMachineModel" "grade" "I", .fieldLink RX5 9 "PaperMachineModel" "weight" "[I", .fieldLink RX5 20 "PaperMachineModel" "isUp" "Z", .methodLink RX5 87 yX5_nextFrom, .instanceMethod yX5_nextFrom, .selects RX5 yX5_nextFrom yX5_nextFrom, .initialized RX5, .code yX5_nextFrom cX5_nextFrom 7 (some .int), .fieldLink RX5 61 "PaperMachineModel" "grades" "I", .methodLink RX5 84 yX5_hasOrders, .instanceMethod yX5_hasOrders, .selects RX5 yX5_hasOrders yX5_hasOrders, .code yX5_hasOrders cX5_hasOrders 4 (some .boolean), .fieldLink RX5 68 "PaperMachineModel" "orders" "I", .fieldLink RX5 24 "PaperMachineModel" "orderGrade" "[I", .fieldLink RX5 30 "PaperMachineModel" "lacks" "[I", .methodLink RX5 75 yX5_goesOn, .instanceMethod yX5_goesOn, .selects RX5 yX5_goesOn yX5_goesOn, .code yX5_goesOn cX5_goesOn 2 (some .boolean), .fieldLink RX5 58 "PaperMachineModel" "thrown" "I"] ++ wsX50 ++ (vx_atM "java/lang/ArrayIndexOutOfBoundsException" ["java/lang/IndexOutOfBoundsException", "java/lang/RuntimeException", "java/lang/Exception"]).filter goodWord)
def wsX5_massOf : List Cond := .code yX5_massOf cX5_massOf 2 (some .int) :: ([.fieldLink RX5 9 "PaperMachineModel" "weight" "[I", .fieldLink RX5 13 "PaperMachineModel" "width" "I"] ++ wsX50 ++ (vx_atM "java/lang/ArrayIndexOutOfBoundsException" ["java/lang/IndexOutOfBoundsException", "java/lang/RuntimeException", "java/lang/Exception"]).filter goodWord)
def wsX5_mass : List Cond := .code yX5_mass cX5_mass 2 (some .int) :: ([.methodLink RX5 78 yX5_isGrade, .instanceMethod yX5_isGrade, .selects RX5 yX5_isGrade yX5_isGrade, .initialized RX5, .code yX5_isGrade cX5_isGrade 2 (some .boolean), .fieldLink RX5 61 "PaperMachineModel" "grades" "I", .methodLink RX5 64 yX5_in, .static yX5_in, .code yX5_in cX5_in 3 (some .boolean), .methodLink RX5 75 yX5_goesOn, .instanceMethod yX5_goesOn, .selects RX5 yX5_goesOn yX5_goesOn, .code yX5_goesOn cX5_goesOn 2 (some .boolean), .fieldLink RX5 58 "PaperMachineModel" "thrown" "I", .methodLink RX5 91 yX5_massOf, .instanceMethod yX5_massOf, .selects RX5 yX5_massOf yX5_massOf, .code yX5_massOf cX5_massOf 2 (some .int), .fieldLink RX5 9 "PaperMachineModel" "weight" "[I", .fieldLink RX5 13 "PaperMachineModel" "width" "I"] ++ wsX50 ++ (vx_atM "java/lang/ArrayIndexOutOfBoundsException" ["java/lang/IndexOutOfBoundsException", "java/lang/RuntimeException", "java/lang/Exception"]).filter goodWord)
def wsX5_order : List Cond := .code yX5_order cX5_order 5 (some .int) :: ([.fieldLink RX5 13 "PaperMachineModel" "width" "I", .fieldLink RX5 68 "PaperMachineModel" "orders" "I", .fieldLink RX5 24 "PaperMachineModel" "orderGrade" "[I", .fieldLink RX5 27 "PaperMachineModel" "orderWidth" "[I", .fieldLink RX5 30 "PaperMachineModel" "lacks" "[I", .methodLink RX5 78 yX5_isGrade, .instanceMethod yX5_isGrade, .selects RX5 yX5_isGrade yX5_isGrade, .initialized RX5, .code yX5_isGrade cX5_isGrade 2 (some .boolean), .fieldLink RX5 61 "PaperMachineModel" "grades" "I", .methodLink RX5 64 yX5_in, .static yX5_in, .code yX5_in cX5_in 3 (some .boolean), .methodLink RX5 75 yX5_goesOn, .instanceMethod yX5_goesOn, .selects RX5 yX5_goesOn yX5_goesOn, .code yX5_goesOn cX5_goesOn 2 (some .boolean), .fieldLink RX5 58 "PaperMachineModel" "thrown" "I"] ++ wsX50 ++ (vx_atM "java/lang/ArrayIndexOutOfBoundsException" ["java/lang/IndexOutOfBoundsException", "java/lang/RuntimeException", "java/lang/Exception"]).filter goodWord)
def wsX5_cancel : List Cond := .code yX5_cancel cX5_cancel 3 (some .int) :: ([.fieldLink RX5 30 "PaperMachineModel" "lacks" "[I", .methodLink RX5 95 yX5_isOrder, .instanceMethod yX5_isOrder, .selects RX5 yX5_isOrder yX5_isOrder, .initialized RX5, .code yX5_isOrder cX5_isOrder 2 (some .boolean), .fieldLink RX5 68 "PaperMachineModel" "orders" "I", .methodLink RX5 64 yX5_in, .static yX5_in, .code yX5_in cX5_in 3 (some .boolean), .methodLink RX5 75 yX5_goesOn, .instanceMethod yX5_goesOn, .selects RX5 yX5_goesOn yX5_goesOn, .code yX5_goesOn cX5_goesOn 2 (some .boolean), .fieldLink RX5 58 "PaperMachineModel" "thrown" "I"] ++ wsX50 ++ (vx_atM "java/lang/ArrayIndexOutOfBoundsException" ["java/lang/IndexOutOfBoundsException", "java/lang/RuntimeException", "java/lang/Exception"]).filter goodWord)
def wsX5_cut : List Cond := .code yX5_cut cX5_cut 2 (some .int) :: ([.fieldLink RX5 33 "PaperMachineModel" "cut" "[I", .methodLink RX5 95 yX5_isOrder, .instanceMethod yX5_isOrder, .selects RX5 yX5_isOrder yX5_isOrder, .initialized RX5, .code yX5_isOrder cX5_isOrder 2 (some .boolean), .fieldLink RX5 68 "PaperMachineModel" "orders" "I", .methodLink RX5 64 yX5_in, .static yX5_in, .code yX5_in cX5_in 3 (some .boolean), .methodLink RX5 75 yX5_goesOn, .instanceMethod yX5_goesOn, .selects RX5 yX5_goesOn yX5_goesOn, .code yX5_goesOn cX5_goesOn 2 (some .boolean), .fieldLink RX5 58 "PaperMachineModel" "thrown" "I"] ++ wsX50 ++ (vx_atM "java/lang/ArrayIndexOutOfBoundsException" ["java/lang/IndexOutOfBoundsException", "java/lang/RuntimeException", "java/lang/Exception"]).filter goodWord)
def wsX5_lacks : List Cond := .code yX5_lacks cX5_lacks 2 (some .int) :: ([.fieldLink RX5 30 "PaperMachineModel" "lacks" "[I", .methodLink RX5 95 yX5_isOrder, .instanceMethod yX5_isOrder, .selects RX5 yX5_isOrder yX5_isOrder, .initialized RX5, .code yX5_isOrder cX5_isOrder 2 (some .boolean), .fieldLink RX5 68 "PaperMachineModel" "orders" "I", .methodLink RX5 64 yX5_in, .static yX5_in, .code yX5_in cX5_in 3 (some .boolean), .methodLink RX5 75 yX5_goesOn, .instanceMethod yX5_goesOn, .selects RX5 yX5_goesOn yX5_goesOn, .code yX5_goesOn cX5_goesOn 2 (some .boolean), .fieldLink RX5 58 "PaperMachineModel" "thrown" "I"] ++ wsX50 ++ (vx_atM "java/lang/ArrayIndexOutOfBoundsException" ["java/lang/IndexOutOfBoundsException", "java/lang/RuntimeException", "java/lang/Exception"]).filter goodWord)
def wsX5_tries : List Cond := .code yX5_tries cX5_tries 7 none :: ([.fieldLink RX5 68 "PaperMachineModel" "orders" "I", .fieldLink RX5 98 "PaperMachineModel" "best" "I", .fieldLink RX5 55 "PaperMachineModel" "inCut" "[I", .fieldLink RX5 52 "PaperMachineModel" "trial" "[I", .fieldLink RX5 24 "PaperMachineModel" "orderGrade" "[I", .fieldLink RX5 30 "PaperMachineModel" "lacks" "[I", .fieldLink RX5 13 "PaperMachineModel" "width" "I", .fieldLink RX5 27 "PaperMachineModel" "orderWidth" "[I", .methodLink RX5 101 yX5_tries, .instanceMethod yX5_tries, .selects RX5 yX5_tries yX5_tries, .initialized RX5] ++ wsX50 ++ (vx_atM "java/lang/ArrayIndexOutOfBoundsException" ["java/lang/IndexOutOfBoundsException", "java/lang/RuntimeException", "java/lang/Exception"]).filter goodWord ++ (vx_atM "java/lang/ArithmeticException" ["java/lang/RuntimeException", "java/lang/Exception"]).filter goodWord)
def wsX5_looks : List Cond := .code yX5_looks cX5_looks 2 (some .int) :: ([.fieldLink RX5 98 "PaperMachineModel" "best" "I", .methodLink RX5 101 yX5_tries, .instanceMethod yX5_tries, .selects RX5 yX5_tries yX5_tries, .initialized RX5, .code yX5_tries cX5_tries 7 none, .fieldLink RX5 68 "PaperMachineModel" "orders" "I", .fieldLink RX5 55 "PaperMachineModel" "inCut" "[I", .fieldLink RX5 52 "PaperMachineModel" "trial" "[I", .fieldLink RX5 24 "PaperMachineModel" "orderGrade" "[I", .fieldLink RX5 30 "PaperMachineModel" "lacks" "[I", .fieldLink RX5 13 "PaperMachineModel" "width" "I", .fieldLink RX5 27 "PaperMachineModel" "orderWidth" "[I"] ++ wsX50 ++ (vx_atM "java/lang/ArrayIndexOutOfBoundsException" ["java/lang/IndexOutOfBoundsException", "java/lang/RuntimeException", "java/lang/Exception"]).filter goodWord ++ (vx_atM "java/lang/ArithmeticException" ["java/lang/RuntimeException", "java/lang/Exception"]).filter goodWord)
def wsX5_trim_r1 : List Cond := [Cond.fieldLink RX5 13 "PaperMachineModel" "width" "I", Cond.methodLink RX5 78 yX5_isGrade, Cond.instanceMethod yX5_isGrade, Cond.selects RX5 yX5_isGrade yX5_isGrade, Cond.initialized RX5, Cond.code yX5_isGrade cX5_isGrade 2 (some .boolean), Cond.fieldLink RX5 61 "PaperMachineModel" "grades" "I", Cond.methodLink RX5 64 yX5_in, Cond.static yX5_in, Cond.code yX5_in cX5_in 3 (some .boolean), Cond.methodLink RX5 75 yX5_goesOn, Cond.instanceMethod yX5_goesOn, Cond.selects RX5 yX5_goesOn yX5_goesOn, Cond.code yX5_goesOn cX5_goesOn 2 (some .boolean), Cond.fieldLink RX5 58 "PaperMachineModel" "thrown" "I", Cond.methodLink RX5 105 yX5_looks, Cond.instanceMethod yX5_looks, Cond.selects RX5 yX5_looks yX5_looks, Cond.code yX5_looks cX5_looks 2 (some .int), Cond.fieldLink RX5 98 "PaperMachineModel" "best" "I", Cond.methodLink RX5 101 yX5_tries, Cond.instanceMethod yX5_tries, Cond.selects RX5 yX5_tries yX5_tries, Cond.code yX5_tries cX5_tries 7 none]
def wsX5_trim_r2 : List Cond := [Cond.fieldLink RX5 68 "PaperMachineModel" "orders" "I", Cond.fieldLink RX5 55 "PaperMachineModel" "inCut" "[I", Cond.fieldLink RX5 52 "PaperMachineModel" "trial" "[I", Cond.fieldLink RX5 24 "PaperMachineModel" "orderGrade" "[I", Cond.fieldLink RX5 30 "PaperMachineModel" "lacks" "[I", Cond.fieldLink RX5 27 "PaperMachineModel" "orderWidth" "[I"]
def wsX5_trim : List Cond := .code yX5_trim cX5_trim 2 (some .int) :: ((wsX5_trim_r1 ++ wsX5_trim_r2) ++ wsX50 ++ (vx_atM "java/lang/ArrayIndexOutOfBoundsException" ["java/lang/IndexOutOfBoundsException", "java/lang/RuntimeException", "java/lang/Exception"]).filter goodWord ++ (vx_atM "java/lang/ArithmeticException" ["java/lang/RuntimeException", "java/lang/Exception"]).filter goodWord)
def wsX5_trimByTable_r1 : List Cond := [Cond.methodLink RX5 108 yX5_trim, Cond.instanceMethod yX5_trim, Cond.selects RX5 yX5_trim yX5_trim, Cond.initialized RX5, Cond.code yX5_trim cX5_trim 2 (some .int), Cond.fieldLink RX5 13 "PaperMachineModel" "width" "I", Cond.methodLink RX5 78 yX5_isGrade, Cond.instanceMethod yX5_isGrade, Cond.selects RX5 yX5_isGrade yX5_isGrade, Cond.code yX5_isGrade cX5_isGrade 2 (some .boolean), Cond.fieldLink RX5 61 "PaperMachineModel" "grades" "I", Cond.methodLink RX5 64 yX5_in, Cond.static yX5_in, Cond.code yX5_in cX5_in 3 (some .boolean), Cond.methodLink RX5 75 yX5_goesOn, Cond.instanceMethod yX5_goesOn, Cond.selects RX5 yX5_goesOn yX5_goesOn, Cond.code yX5_goesOn cX5_goesOn 2 (some .boolean), Cond.fieldLink RX5 58 "PaperMachineModel" "thrown" "I", Cond.methodLink RX5 105 yX5_looks, Cond.instanceMethod yX5_looks, Cond.selects RX5 yX5_looks yX5_looks, Cond.code yX5_looks cX5_looks 2 (some .int), Cond.fieldLink RX5 98 "PaperMachineModel" "best" "I"]
def wsX5_trimByTable_r2 : List Cond := [Cond.methodLink RX5 101 yX5_tries, Cond.instanceMethod yX5_tries, Cond.selects RX5 yX5_tries yX5_tries, Cond.code yX5_tries cX5_tries 7 none, Cond.fieldLink RX5 68 "PaperMachineModel" "orders" "I", Cond.fieldLink RX5 55 "PaperMachineModel" "inCut" "[I", Cond.fieldLink RX5 52 "PaperMachineModel" "trial" "[I", Cond.fieldLink RX5 24 "PaperMachineModel" "orderGrade" "[I", Cond.fieldLink RX5 30 "PaperMachineModel" "lacks" "[I", Cond.fieldLink RX5 27 "PaperMachineModel" "orderWidth" "[I"]
def wsX5_trimByTable : List Cond := .code yX5_trimByTable cX5_trimByTable 2 (some .int) :: ((wsX5_trimByTable_r1 ++ wsX5_trimByTable_r2) ++ wsX50 ++ (vx_atM "java/lang/ArrayIndexOutOfBoundsException" ["java/lang/IndexOutOfBoundsException", "java/lang/RuntimeException", "java/lang/Exception"]).filter goodWord ++ (vx_atM "java/lang/ArithmeticException" ["java/lang/RuntimeException", "java/lang/Exception"]).filter goodWord)
def wsX5_inCut_r1 : List Cond := [Cond.fieldLink RX5 24 "PaperMachineModel" "orderGrade" "[I", Cond.fieldLink RX5 55 "PaperMachineModel" "inCut" "[I", Cond.methodLink RX5 95 yX5_isOrder, Cond.instanceMethod yX5_isOrder, Cond.selects RX5 yX5_isOrder yX5_isOrder, Cond.initialized RX5, Cond.code yX5_isOrder cX5_isOrder 2 (some .boolean), Cond.fieldLink RX5 68 "PaperMachineModel" "orders" "I", Cond.methodLink RX5 64 yX5_in, Cond.static yX5_in, Cond.code yX5_in cX5_in 3 (some .boolean), Cond.methodLink RX5 75 yX5_goesOn, Cond.instanceMethod yX5_goesOn, Cond.selects RX5 yX5_goesOn yX5_goesOn, Cond.code yX5_goesOn cX5_goesOn 2 (some .boolean), Cond.fieldLink RX5 58 "PaperMachineModel" "thrown" "I", Cond.methodLink RX5 105 yX5_looks, Cond.instanceMethod yX5_looks, Cond.selects RX5 yX5_looks yX5_looks, Cond.code yX5_looks cX5_looks 2 (some .int), Cond.fieldLink RX5 98 "PaperMachineModel" "best" "I", Cond.methodLink RX5 101 yX5_tries, Cond.instanceMethod yX5_tries, Cond.selects RX5 yX5_tries yX5_tries]
def wsX5_inCut_r2 : List Cond := [Cond.code yX5_tries cX5_tries 7 none, Cond.fieldLink RX5 52 "PaperMachineModel" "trial" "[I", Cond.fieldLink RX5 30 "PaperMachineModel" "lacks" "[I", Cond.fieldLink RX5 13 "PaperMachineModel" "width" "I", Cond.fieldLink RX5 27 "PaperMachineModel" "orderWidth" "[I"]
def wsX5_inCut : List Cond := .code yX5_inCut cX5_inCut 3 (some .int) :: ((wsX5_inCut_r1 ++ wsX5_inCut_r2) ++ wsX50 ++ (vx_atM "java/lang/ArrayIndexOutOfBoundsException" ["java/lang/IndexOutOfBoundsException", "java/lang/RuntimeException", "java/lang/Exception"]).filter goodWord ++ (vx_atM "java/lang/ArithmeticException" ["java/lang/RuntimeException", "java/lang/Exception"]).filter goodWord)
def wsX5_leastHours : List Cond := .code yX5_leastHours cX5_leastHours 6 (some .int) :: ([.fieldLink RX5 68 "PaperMachineModel" "orders" "I", .fieldLink RX5 24 "PaperMachineModel" "orderGrade" "[I", .fieldLink RX5 30 "PaperMachineModel" "lacks" "[I", .fieldLink RX5 27 "PaperMachineModel" "orderWidth" "[I", .fieldLink RX5 13 "PaperMachineModel" "width" "I", .methodLink RX5 78 yX5_isGrade, .instanceMethod yX5_isGrade, .selects RX5 yX5_isGrade yX5_isGrade, .initialized RX5, .code yX5_isGrade cX5_isGrade 2 (some .boolean), .fieldLink RX5 61 "PaperMachineModel" "grades" "I", .methodLink RX5 64 yX5_in, .static yX5_in, .code yX5_in cX5_in 3 (some .boolean), .methodLink RX5 75 yX5_goesOn, .instanceMethod yX5_goesOn, .selects RX5 yX5_goesOn yX5_goesOn, .code yX5_goesOn cX5_goesOn 2 (some .boolean), .fieldLink RX5 58 "PaperMachineModel" "thrown" "I"] ++ wsX50 ++ (vx_atM "java/lang/ArrayIndexOutOfBoundsException" ["java/lang/IndexOutOfBoundsException", "java/lang/RuntimeException", "java/lang/Exception"]).filter goodWord ++ (vx_atM "java/lang/ArithmeticException" ["java/lang/RuntimeException", "java/lang/Exception"]).filter goodWord)
def wsX5_setShare : List Cond := .code yX5_setShare cX5_setShare 3 (some .int) :: ([.fieldLink RX5 36 "PaperMachineModel" "share" "I", .methodLink RX5 64 yX5_in, .static yX5_in, .initialized RX5, .code yX5_in cX5_in 3 (some .boolean), .methodLink RX5 75 yX5_goesOn, .instanceMethod yX5_goesOn, .selects RX5 yX5_goesOn yX5_goesOn, .code yX5_goesOn cX5_goesOn 2 (some .boolean), .fieldLink RX5 58 "PaperMachineModel" "thrown" "I"] ++ wsX50)
def wsX5_setContract : List Cond := .code yX5_setContract cX5_setContract 5 (some .int) :: ([.fieldLink RX5 39 "PaperMachineModel" "limit" "I", .fieldLink RX5 42 "PaperMachineModel" "firstPrice" "I", .fieldLink RX5 45 "PaperMachineModel" "secondPrice" "I", .methodLink RX5 64 yX5_in, .static yX5_in, .initialized RX5, .code yX5_in cX5_in 3 (some .boolean), .methodLink RX5 75 yX5_goesOn, .instanceMethod yX5_goesOn, .selects RX5 yX5_goesOn yX5_goesOn, .code yX5_goesOn cX5_goesOn 2 (some .boolean), .fieldLink RX5 58 "PaperMachineModel" "thrown" "I"] ++ wsX50)
def wsX5_makes : List Cond := .code yX5_makes cX5_makes 7 none :: ([.fieldLink RX5 36 "PaperMachineModel" "share" "I", .fieldLink RX5 111 "PaperMachineModel" "broke" "I", .fieldLink RX5 114 "PaperMachineModel" "fresh" "J", .fieldLink RX5 118 "PaperMachineModel" "paper" "J", .fieldLink RX5 121 "PaperMachineModel" "lost" "J", .fieldLink RX5 124 "PaperMachineModel" "mass" "J", .fieldLink RX5 39 "PaperMachineModel" "limit" "I", .fieldLink RX5 127 "PaperMachineModel" "steam" "J", .fieldLink RX5 42 "PaperMachineModel" "firstPrice" "I", .fieldLink RX5 45 "PaperMachineModel" "secondPrice" "I"] ++ wsX50)
def wsX5_cuts_r1 : List Cond := [Cond.fieldLink RX5 17 "PaperMachineModel" "grade" "I", Cond.fieldLink RX5 48 "PaperMachineModel" "made" "[C", Cond.fieldLink RX5 130 "PaperMachineModel" "hours" "I", Cond.fieldLink RX5 68 "PaperMachineModel" "orders" "I", Cond.fieldLink RX5 30 "PaperMachineModel" "lacks" "[I", Cond.fieldLink RX5 55 "PaperMachineModel" "inCut" "[I", Cond.fieldLink RX5 33 "PaperMachineModel" "cut" "[I", Cond.fieldLink RX5 133 "PaperMachineModel" "paperHours" "I", Cond.fieldLink RX5 136 "PaperMachineModel" "trims" "I", Cond.fieldLink RX5 13 "PaperMachineModel" "width" "I", Cond.methodLink RX5 105 yX5_looks, Cond.instanceMethod yX5_looks, Cond.selects RX5 yX5_looks yX5_looks, Cond.initialized RX5, Cond.code yX5_looks cX5_looks 2 (some .int), Cond.fieldLink RX5 98 "PaperMachineModel" "best" "I", Cond.methodLink RX5 101 yX5_tries, Cond.instanceMethod yX5_tries, Cond.selects RX5 yX5_tries yX5_tries, Cond.code yX5_tries cX5_tries 7 none, Cond.fieldLink RX5 52 "PaperMachineModel" "trial" "[I", Cond.fieldLink RX5 24 "PaperMachineModel" "orderGrade" "[I", Cond.fieldLink RX5 27 "PaperMachineModel" "orderWidth" "[I", Cond.methodLink RX5 91 yX5_massOf]
def wsX5_cuts_r2 : List Cond := [Cond.instanceMethod yX5_massOf, Cond.selects RX5 yX5_massOf yX5_massOf, Cond.code yX5_massOf cX5_massOf 2 (some .int), Cond.fieldLink RX5 9 "PaperMachineModel" "weight" "[I", Cond.methodLink RX5 139 yX5_makes, Cond.instanceMethod yX5_makes, Cond.selects RX5 yX5_makes yX5_makes, Cond.code yX5_makes cX5_makes 7 none, Cond.fieldLink RX5 36 "PaperMachineModel" "share" "I", Cond.fieldLink RX5 111 "PaperMachineModel" "broke" "I", Cond.fieldLink RX5 114 "PaperMachineModel" "fresh" "J", Cond.fieldLink RX5 118 "PaperMachineModel" "paper" "J", Cond.fieldLink RX5 121 "PaperMachineModel" "lost" "J", Cond.fieldLink RX5 124 "PaperMachineModel" "mass" "J", Cond.fieldLink RX5 39 "PaperMachineModel" "limit" "I", Cond.fieldLink RX5 127 "PaperMachineModel" "steam" "J", Cond.fieldLink RX5 42 "PaperMachineModel" "firstPrice" "I", Cond.fieldLink RX5 45 "PaperMachineModel" "secondPrice" "I"]
def wsX5_cuts : List Cond := .code yX5_cuts cX5_cuts 4 (some .int) :: ((wsX5_cuts_r1 ++ wsX5_cuts_r2) ++ wsX50 ++ (vx_atM "java/lang/ArrayIndexOutOfBoundsException" ["java/lang/IndexOutOfBoundsException", "java/lang/RuntimeException", "java/lang/Exception"]).filter goodWord ++ (vx_atM "java/lang/ArithmeticException" ["java/lang/RuntimeException", "java/lang/Exception"]).filter goodWord)
def wsX5_passesOne_r1 : List Cond := [Cond.fieldLink RX5 17 "PaperMachineModel" "grade" "I", Cond.fieldLink RX5 48 "PaperMachineModel" "made" "[C", Cond.fieldLink RX5 130 "PaperMachineModel" "hours" "I", Cond.fieldLink RX5 81 "PaperMachineModel" "changing" "I", Cond.methodLink RX5 91 yX5_massOf, Cond.instanceMethod yX5_massOf, Cond.selects RX5 yX5_massOf yX5_massOf, Cond.initialized RX5, Cond.code yX5_massOf cX5_massOf 2 (some .int), Cond.fieldLink RX5 9 "PaperMachineModel" "weight" "[I", Cond.fieldLink RX5 13 "PaperMachineModel" "width" "I", Cond.methodLink RX5 139 yX5_makes, Cond.instanceMethod yX5_makes, Cond.selects RX5 yX5_makes yX5_makes, Cond.code yX5_makes cX5_makes 7 none, Cond.fieldLink RX5 36 "PaperMachineModel" "share" "I", Cond.fieldLink RX5 111 "PaperMachineModel" "broke" "I", Cond.fieldLink RX5 114 "PaperMachineModel" "fresh" "J", Cond.fieldLink RX5 118 "PaperMachineModel" "paper" "J", Cond.fieldLink RX5 121 "PaperMachineModel" "lost" "J", Cond.fieldLink RX5 124 "PaperMachineModel" "mass" "J", Cond.fieldLink RX5 39 "PaperMachineModel" "limit" "I", Cond.fieldLink RX5 127 "PaperMachineModel" "steam" "J", Cond.fieldLink RX5 42 "PaperMachineModel" "firstPrice" "I"]
def wsX5_passesOne_r2 : List Cond := [Cond.fieldLink RX5 45 "PaperMachineModel" "secondPrice" "I", Cond.methodLink RX5 143 yX5_cuts, Cond.instanceMethod yX5_cuts, Cond.selects RX5 yX5_cuts yX5_cuts, Cond.code yX5_cuts cX5_cuts 4 (some .int), Cond.fieldLink RX5 68 "PaperMachineModel" "orders" "I", Cond.fieldLink RX5 30 "PaperMachineModel" "lacks" "[I", Cond.fieldLink RX5 55 "PaperMachineModel" "inCut" "[I", Cond.fieldLink RX5 33 "PaperMachineModel" "cut" "[I", Cond.fieldLink RX5 133 "PaperMachineModel" "paperHours" "I", Cond.fieldLink RX5 136 "PaperMachineModel" "trims" "I", Cond.methodLink RX5 105 yX5_looks, Cond.instanceMethod yX5_looks, Cond.selects RX5 yX5_looks yX5_looks, Cond.code yX5_looks cX5_looks 2 (some .int), Cond.fieldLink RX5 98 "PaperMachineModel" "best" "I", Cond.methodLink RX5 101 yX5_tries, Cond.instanceMethod yX5_tries, Cond.selects RX5 yX5_tries yX5_tries, Cond.code yX5_tries cX5_tries 7 none, Cond.fieldLink RX5 52 "PaperMachineModel" "trial" "[I", Cond.fieldLink RX5 24 "PaperMachineModel" "orderGrade" "[I", Cond.fieldLink RX5 27 "PaperMachineModel" "orderWidth" "[I"]
def wsX5_passesOne : List Cond := .code yX5_passesOne cX5_passesOne 2 (some .int) :: ((wsX5_passesOne_r1 ++ wsX5_passesOne_r2) ++ wsX50 ++ (vx_atM "java/lang/ArrayIndexOutOfBoundsException" ["java/lang/IndexOutOfBoundsException", "java/lang/RuntimeException", "java/lang/Exception"]).filter goodWord ++ (vx_atM "java/lang/ArithmeticException" ["java/lang/RuntimeException", "java/lang/Exception"]).filter goodWord)
def wsX5_pass_r1 : List Cond := [Cond.fieldLink RX5 130 "PaperMachineModel" "hours" "I", Cond.methodLink RX5 64 yX5_in, Cond.static yX5_in, Cond.initialized RX5, Cond.code yX5_in cX5_in 3 (some .boolean), Cond.methodLink RX5 75 yX5_goesOn, Cond.instanceMethod yX5_goesOn, Cond.selects RX5 yX5_goesOn yX5_goesOn, Cond.code yX5_goesOn cX5_goesOn 2 (some .boolean), Cond.fieldLink RX5 58 "PaperMachineModel" "thrown" "I", Cond.methodLink RX5 147 yX5_passesOne, Cond.instanceMethod yX5_passesOne, Cond.selects RX5 yX5_passesOne yX5_passesOne, Cond.code yX5_passesOne cX5_passesOne 2 (some .int), Cond.fieldLink RX5 17 "PaperMachineModel" "grade" "I", Cond.fieldLink RX5 48 "PaperMachineModel" "made" "[C", Cond.fieldLink RX5 81 "PaperMachineModel" "changing" "I", Cond.methodLink RX5 91 yX5_massOf, Cond.instanceMethod yX5_massOf, Cond.selects RX5 yX5_massOf yX5_massOf, Cond.code yX5_massOf cX5_massOf 2 (some .int), Cond.fieldLink RX5 9 "PaperMachineModel" "weight" "[I", Cond.fieldLink RX5 13 "PaperMachineModel" "width" "I", Cond.methodLink RX5 139 yX5_makes]
def wsX5_pass_r2 : List Cond := [Cond.instanceMethod yX5_makes, Cond.selects RX5 yX5_makes yX5_makes, Cond.code yX5_makes cX5_makes 7 none, Cond.fieldLink RX5 36 "PaperMachineModel" "share" "I", Cond.fieldLink RX5 111 "PaperMachineModel" "broke" "I", Cond.fieldLink RX5 114 "PaperMachineModel" "fresh" "J", Cond.fieldLink RX5 118 "PaperMachineModel" "paper" "J", Cond.fieldLink RX5 121 "PaperMachineModel" "lost" "J", Cond.fieldLink RX5 124 "PaperMachineModel" "mass" "J", Cond.fieldLink RX5 39 "PaperMachineModel" "limit" "I", Cond.fieldLink RX5 127 "PaperMachineModel" "steam" "J", Cond.fieldLink RX5 42 "PaperMachineModel" "firstPrice" "I", Cond.fieldLink RX5 45 "PaperMachineModel" "secondPrice" "I", Cond.methodLink RX5 143 yX5_cuts, Cond.instanceMethod yX5_cuts, Cond.selects RX5 yX5_cuts yX5_cuts, Cond.code yX5_cuts cX5_cuts 4 (some .int), Cond.fieldLink RX5 68 "PaperMachineModel" "orders" "I", Cond.fieldLink RX5 30 "PaperMachineModel" "lacks" "[I", Cond.fieldLink RX5 55 "PaperMachineModel" "inCut" "[I", Cond.fieldLink RX5 33 "PaperMachineModel" "cut" "[I", Cond.fieldLink RX5 133 "PaperMachineModel" "paperHours" "I", Cond.fieldLink RX5 136 "PaperMachineModel" "trims" "I", Cond.methodLink RX5 105 yX5_looks]
def wsX5_pass_r3 : List Cond := [Cond.instanceMethod yX5_looks, Cond.selects RX5 yX5_looks yX5_looks, Cond.code yX5_looks cX5_looks 2 (some .int), Cond.fieldLink RX5 98 "PaperMachineModel" "best" "I", Cond.methodLink RX5 101 yX5_tries, Cond.instanceMethod yX5_tries, Cond.selects RX5 yX5_tries yX5_tries, Cond.code yX5_tries cX5_tries 7 none, Cond.fieldLink RX5 52 "PaperMachineModel" "trial" "[I", Cond.fieldLink RX5 24 "PaperMachineModel" "orderGrade" "[I", Cond.fieldLink RX5 27 "PaperMachineModel" "orderWidth" "[I"]
def wsX5_pass : List Cond := .code yX5_pass cX5_pass 4 (some .int) :: ((wsX5_pass_r1 ++ (wsX5_pass_r2 ++ wsX5_pass_r3)) ++ wsX50 ++ (vx_atM "java/lang/ArrayIndexOutOfBoundsException" ["java/lang/IndexOutOfBoundsException", "java/lang/RuntimeException", "java/lang/Exception"]).filter goodWord ++ (vx_atM "java/lang/ArithmeticException" ["java/lang/RuntimeException", "java/lang/Exception"]).filter goodWord)
def wsX5_hours : List Cond := .code yX5_hours cX5_hours 1 (some .int) :: ([.fieldLink RX5 58 "PaperMachineModel" "thrown" "I", .fieldLink RX5 130 "PaperMachineModel" "hours" "I"] ++ wsX50)
def wsX5_broke : List Cond := .code yX5_broke cX5_broke 1 (some .int) :: ([.fieldLink RX5 58 "PaperMachineModel" "thrown" "I", .fieldLink RX5 111 "PaperMachineModel" "broke" "I"] ++ wsX50)
def wsX5_brokeByHours : List Cond := .code yX5_brokeByHours cX5_brokeByHours 1 (some .int) :: ([.fieldLink RX5 58 "PaperMachineModel" "thrown" "I", .fieldLink RX5 111 "PaperMachineModel" "broke" "I"] ++ wsX50)
def wsX5_fresh : List Cond := .code yX5_fresh cX5_fresh 1 (some .long) :: ([.fieldLink RX5 58 "PaperMachineModel" "thrown" "I", .fieldLink RX5 114 "PaperMachineModel" "fresh" "J"] ++ wsX50)
def wsX5_paper : List Cond := .code yX5_paper cX5_paper 1 (some .long) :: ([.fieldLink RX5 58 "PaperMachineModel" "thrown" "I", .fieldLink RX5 118 "PaperMachineModel" "paper" "J"] ++ wsX50)
def wsX5_lost : List Cond := .code yX5_lost cX5_lost 1 (some .long) :: ([.fieldLink RX5 58 "PaperMachineModel" "thrown" "I", .fieldLink RX5 121 "PaperMachineModel" "lost" "J"] ++ wsX50)
def wsX5_made : List Cond := .code yX5_made cX5_made 2 (some .char) :: ([.fieldLink RX5 130 "PaperMachineModel" "hours" "I", .fieldLink RX5 48 "PaperMachineModel" "made" "[C", .methodLink RX5 64 yX5_in, .static yX5_in, .initialized RX5, .code yX5_in cX5_in 3 (some .boolean), .methodLink RX5 75 yX5_goesOn, .instanceMethod yX5_goesOn, .selects RX5 yX5_goesOn yX5_goesOn, .code yX5_goesOn cX5_goesOn 2 (some .boolean), .fieldLink RX5 58 "PaperMachineModel" "thrown" "I"] ++ wsX50 ++ (vx_atM "java/lang/ArrayIndexOutOfBoundsException" ["java/lang/IndexOutOfBoundsException", "java/lang/RuntimeException", "java/lang/Exception"]).filter goodWord)
def wsX5_steamCost : List Cond := .code yX5_steamCost cX5_steamCost 1 (some .long) :: ([.fieldLink RX5 58 "PaperMachineModel" "thrown" "I", .fieldLink RX5 127 "PaperMachineModel" "steam" "J"] ++ wsX50)
def wsX5_paperShare : List Cond := .code yX5_paperShare cX5_paperShare 1 (some .float) :: ([.fieldLink RX5 124 "PaperMachineModel" "mass" "J", .fieldLink RX5 118 "PaperMachineModel" "paper" "J", .methodLink RX5 75 yX5_goesOn, .instanceMethod yX5_goesOn, .selects RX5 yX5_goesOn yX5_goesOn, .initialized RX5, .code yX5_goesOn cX5_goesOn 2 (some .boolean), .fieldLink RX5 58 "PaperMachineModel" "thrown" "I"] ++ wsX50)
def wsX5_meanTrim : List Cond := .code yX5_meanTrim cX5_meanTrim 1 (some .double) :: ([.fieldLink RX5 133 "PaperMachineModel" "paperHours" "I", .fieldLink RX5 136 "PaperMachineModel" "trims" "I", .methodLink RX5 75 yX5_goesOn, .instanceMethod yX5_goesOn, .selects RX5 yX5_goesOn yX5_goesOn, .initialized RX5, .code yX5_goesOn cX5_goesOn 2 (some .boolean), .fieldLink RX5 58 "PaperMachineModel" "thrown" "I"] ++ wsX50)
def wsJx00060_init_a7421 : List Cond := .code yJx00060_init_a7421 cJx00060_init_a7421 2 none :: ([])
def wsJ9_abs_0f7a4 : List Cond := .code yJ9_abs_0f7a4 cJ9_abs_0f7a4 1 (some .int) :: ([])
def wsJ9_max_7cf53 : List Cond := .code yJ9_max_7cf53 cJ9_max_7cf53 2 (some .int) :: ([])
def wsJ9_min_7cf53 : List Cond := .code yJ9_min_7cf53 cJ9_min_7cf53 2 (some .int) :: ([])
def wsL_addGrade : List Cond := .codeWith yL_addGrade cL_addGrade 4 (some .int) [(0, 9, 12, 13), (0, 9, 15, 15)] :: ([.classLink RL 13 "java/lang/IllegalArgumentException", .classLink RL 15 "java/lang/IllegalStateException", .methodLink RL 7 yX4_addGrade, .instanceMethod yX4_addGrade, .selects RX4 yX4_addGrade yX4_addGrade, .initialized RX4, .code yX4_addGrade cX4_addGrade 3 (some .int), .classLink RX4 63 "java/lang/IllegalArgumentException", .initialized "java/lang/IllegalArgumentException", .classLink RX4 73 "java/lang/IllegalStateException", .initialized "java/lang/IllegalStateException", .fieldLink RX4 70 "PaperMachine" "gradeCount" "I", .fieldLink RX4 9 "PaperMachine" "weights" "[I", .methodLink RX4 55 yX4_isWithin, .static yX4_isWithin, .code yX4_isWithin cX4_isWithin 3 (some .boolean), .methodLink RX4 59 yX4_isWeightTaken, .instanceMethod yX4_isWeightTaken, .selects RX4 yX4_isWeightTaken yX4_isWeightTaken, .code yX4_isWeightTaken cX4_isWeightTaken 3 (some .boolean)] ++ wsX40 ++ (vx_atM "java/lang/ArrayIndexOutOfBoundsException" ["java/lang/IndexOutOfBoundsException", "java/lang/RuntimeException", "java/lang/Exception"]).filter goodWord ++ (vx_atS RX4 67 "java/lang/IllegalArgumentException" ["java/lang/RuntimeException", "java/lang/Exception"]).filter goodWord ++ (vx_atS RX4 77 "java/lang/IllegalStateException" ["java/lang/RuntimeException", "java/lang/Exception"]).filter goodWord)
def wsL_setWidth_r1 : List Cond := [Cond.classLink RL 13 "java/lang/IllegalArgumentException", Cond.classLink RL 15 "java/lang/IllegalStateException", Cond.methodLink RL 17 yX4_setWidth, Cond.instanceMethod yX4_setWidth, Cond.selects RX4 yX4_setWidth yX4_setWidth, Cond.initialized RX4, Cond.code yX4_setWidth cX4_setWidth 3 (some .int), Cond.classLink RX4 63 "java/lang/IllegalArgumentException", Cond.initialized "java/lang/IllegalArgumentException", Cond.classLink RX4 73 "java/lang/IllegalStateException", Cond.initialized "java/lang/IllegalStateException", Cond.fieldLink RX4 27 "PaperMachine" "orderBook" "LPaperMachine$OrderBook;", Cond.fieldLink RX4 13 "PaperMachine" "machineWidth" "I", Cond.methodLink RX4 55 yX4_isWithin, Cond.static yX4_isWithin, Cond.code yX4_isWithin cX4_isWithin 3 (some .boolean), Cond.methodLink RX4 80 yX3_widestOpen, Cond.instanceMethod yX3_widestOpen, Cond.selects RX3 yX3_widestOpen yX3_widestOpen, Cond.initialized RX3, Cond.code yX3_widestOpen cX3_widestOpen 3 (some .int), Cond.fieldLink RX3 24 "PaperMachine$OrderBook" "count" "I", Cond.fieldLink RX3 21 "PaperMachine$OrderBook" "lacking" "[I", Cond.fieldLink RX3 15 "PaperMachine$OrderBook" "widths" "[I"]
def wsL_setWidth_r2 : List Cond := [Cond.methodLink RX3 32 Lib.Math.max.name, Cond.static Lib.Math.max.name, Cond.initialized "java/lang/Math", Cond.code Lib.Math.max.name Lib.Math.max.code 2 (some .int)]
def wsL_setWidth : List Cond := .codeWith yL_setWidth cL_setWidth 4 (some .int) [(0, 9, 12, 13), (0, 9, 15, 15)] :: ((wsL_setWidth_r1 ++ wsL_setWidth_r2) ++ wsX40 ++ wsX30 ++ (vx_atM "java/lang/ArrayIndexOutOfBoundsException" ["java/lang/IndexOutOfBoundsException", "java/lang/RuntimeException", "java/lang/Exception"]).filter goodWord ++ (vx_atS RX4 67 "java/lang/IllegalArgumentException" ["java/lang/RuntimeException", "java/lang/Exception"]).filter goodWord ++ (vx_atS RX4 77 "java/lang/IllegalStateException" ["java/lang/RuntimeException", "java/lang/Exception"]).filter goodWord)
def wsL_change_r1 : List Cond := [Cond.classLink RL 23 "java/lang/IndexOutOfBoundsException", Cond.classLink RL 13 "java/lang/IllegalArgumentException", Cond.classLink RL 15 "java/lang/IllegalStateException", Cond.methodLink RL 20 yX4_change, Cond.instanceMethod yX4_change, Cond.selects RX4 yX4_change yX4_change, Cond.initialized RX4, Cond.code yX4_change cX4_change 4 (some .int), Cond.classLink RX4 89 "java/lang/IndexOutOfBoundsException", Cond.initialized "java/lang/IndexOutOfBoundsException", Cond.classLink RX4 63 "java/lang/IllegalArgumentException", Cond.initialized "java/lang/IllegalArgumentException", Cond.classLink RX4 73 "java/lang/IllegalStateException", Cond.initialized "java/lang/IllegalStateException", Cond.fieldLink RX4 17 "PaperMachine" "machineGrade" "I", Cond.fieldLink RX4 96 "PaperMachine" "changeHours" "I", Cond.fieldLink RX4 9 "PaperMachine" "weights" "[I", Cond.methodLink RX4 101 Lib.Math.abs.name, Cond.static Lib.Math.abs.name, Cond.initialized "java/lang/Math", Cond.code Lib.Math.abs.name Lib.Math.abs.code 1 (some .int), Cond.fieldLink RX4 20 "PaperMachine" "upward" "Z", Cond.methodLink RX4 86 yX4_isGrade, Cond.instanceMethod yX4_isGrade]
def wsL_change_r2 : List Cond := [Cond.selects RX4 yX4_isGrade yX4_isGrade, Cond.code yX4_isGrade cX4_isGrade 2 (some .boolean), Cond.fieldLink RX4 70 "PaperMachine" "gradeCount" "I"]
def wsL_change : List Cond := .codeWith yL_change cL_change 4 (some .int) [(0, 9, 12, 23), (0, 9, 15, 13), (0, 9, 18, 15)] :: ((wsL_change_r1 ++ wsL_change_r2) ++ wsX40 ++ (vx_atM "java/lang/ArrayIndexOutOfBoundsException" ["java/lang/IndexOutOfBoundsException", "java/lang/RuntimeException", "java/lang/Exception"]).filter goodWord ++ (vx_atS RX4 93 "java/lang/IndexOutOfBoundsException" ["java/lang/RuntimeException", "java/lang/Exception"]).filter goodWord ++ (vx_atS RX4 67 "java/lang/IllegalArgumentException" ["java/lang/RuntimeException", "java/lang/Exception"]).filter goodWord ++ (vx_atS RX4 77 "java/lang/IllegalStateException" ["java/lang/RuntimeException", "java/lang/Exception"]).filter goodWord)
def wsL_grade : List Cond := .codeWith yL_grade cL_grade 3 (some .int) [(0, 8, 11, 29)] :: ([.classLink RL 29 "java/util/NoSuchElementException", .methodLink RL 25 yX4_grade, .instanceMethod yX4_grade, .selects RX4 yX4_grade yX4_grade, .initialized RX4, .code yX4_grade cX4_grade 1 (some .int), .classLink RX4 107 "java/util/NoSuchElementException", .initialized "java/util/NoSuchElementException", .fieldLink RX4 17 "PaperMachine" "machineGrade" "I", .methodLink RX4 86 yX4_isGrade, .instanceMethod yX4_isGrade, .selects RX4 yX4_isGrade yX4_isGrade, .code yX4_isGrade cX4_isGrade 2 (some .boolean), .fieldLink RX4 70 "PaperMachine" "gradeCount" "I"] ++ wsX40 ++ (vx_atM "java/lang/ArrayIndexOutOfBoundsException" ["java/lang/IndexOutOfBoundsException", "java/lang/RuntimeException", "java/lang/Exception"]).filter goodWord ++ (nx_atS RX4 111 "java/util/NoSuchElementException" ["java/lang/RuntimeException", "java/lang/Exception"]).filter goodWord)
def wsL_next_r1 : List Cond := [Cond.classLink RL 29 "java/util/NoSuchElementException", Cond.methodLink RL 31 yX4_next, Cond.instanceMethod yX4_next, Cond.selects RX4 yX4_next yX4_next, Cond.initialized RX4, Cond.code yX4_next cX4_next 2 (some .int), Cond.classLink RX4 107 "java/util/NoSuchElementException", Cond.initialized "java/util/NoSuchElementException", Cond.fieldLink RX4 17 "PaperMachine" "machineGrade" "I", Cond.fieldLink RX4 9 "PaperMachine" "weights" "[I", Cond.fieldLink RX4 20 "PaperMachine" "upward" "Z", Cond.methodLink RX4 86 yX4_isGrade, Cond.instanceMethod yX4_isGrade, Cond.selects RX4 yX4_isGrade yX4_isGrade, Cond.code yX4_isGrade cX4_isGrade 2 (some .boolean), Cond.fieldLink RX4 70 "PaperMachine" "gradeCount" "I", Cond.methodLink RX4 112 yX4_nearestWaiting, Cond.instanceMethod yX4_nearestWaiting, Cond.selects RX4 yX4_nearestWaiting yX4_nearestWaiting, Cond.code yX4_nearestWaiting cX4_nearestWaiting 8 (some .int), Cond.fieldLink RX4 27 "PaperMachine" "orderBook" "LPaperMachine$OrderBook;", Cond.methodLink RX4 174 yX3_rollsLacking, Cond.instanceMethod yX3_rollsLacking, Cond.selects RX3 yX3_rollsLacking yX3_rollsLacking]
def wsL_next_r2 : List Cond := [Cond.initialized RX3, Cond.code yX3_rollsLacking cX3_rollsLacking 4 (some .int), Cond.fieldLink RX3 24 "PaperMachine$OrderBook" "count" "I", Cond.fieldLink RX3 9 "PaperMachine$OrderBook" "grades" "[I", Cond.fieldLink RX3 21 "PaperMachine$OrderBook" "lacking" "[I"]
def wsL_next : List Cond := .codeWith yL_next cL_next 3 (some .int) [(0, 8, 11, 29)] :: ((wsL_next_r1 ++ wsL_next_r2) ++ wsX40 ++ wsX30 ++ (vx_atM "java/lang/ArrayIndexOutOfBoundsException" ["java/lang/IndexOutOfBoundsException", "java/lang/RuntimeException", "java/lang/Exception"]).filter goodWord ++ (nx_atS RX4 111 "java/util/NoSuchElementException" ["java/lang/RuntimeException", "java/lang/Exception"]).filter goodWord)
def wsL_mass : List Cond := .codeWith yL_mass cL_mass 4 (some .int) [(0, 9, 12, 23)] :: ([.classLink RL 23 "java/lang/IndexOutOfBoundsException", .methodLink RL 34 yX4_mass, .instanceMethod yX4_mass, .selects RX4 yX4_mass yX4_mass, .initialized RX4, .code yX4_mass cX4_mass 2 (some .int), .classLink RX4 89 "java/lang/IndexOutOfBoundsException", .initialized "java/lang/IndexOutOfBoundsException", .methodLink RX4 86 yX4_isGrade, .instanceMethod yX4_isGrade, .selects RX4 yX4_isGrade yX4_isGrade, .code yX4_isGrade cX4_isGrade 2 (some .boolean), .fieldLink RX4 70 "PaperMachine" "gradeCount" "I", .methodLink RX4 118 yX4_massOfAnHour, .instanceMethod yX4_massOfAnHour, .selects RX4 yX4_massOfAnHour yX4_massOfAnHour, .code yX4_massOfAnHour cX4_massOfAnHour 2 (some .int), .fieldLink RX4 9 "PaperMachine" "weights" "[I", .fieldLink RX4 13 "PaperMachine" "machineWidth" "I"] ++ wsX40 ++ (vx_atM "java/lang/ArrayIndexOutOfBoundsException" ["java/lang/IndexOutOfBoundsException", "java/lang/RuntimeException", "java/lang/Exception"]).filter goodWord ++ (vx_atS RX4 93 "java/lang/IndexOutOfBoundsException" ["java/lang/RuntimeException", "java/lang/Exception"]).filter goodWord)
def wsL_order_r1 : List Cond := [Cond.classLink RL 23 "java/lang/IndexOutOfBoundsException", Cond.classLink RL 13 "java/lang/IllegalArgumentException", Cond.classLink RL 41 "java/lang/UnsupportedOperationException", Cond.classLink RL 15 "java/lang/IllegalStateException", Cond.methodLink RL 37 yX4_order, Cond.instanceMethod yX4_order, Cond.selects RX4 yX4_order yX4_order, Cond.initialized RX4, Cond.code yX4_order cX4_order 4 (some .int), Cond.classLink RX4 89 "java/lang/IndexOutOfBoundsException", Cond.initialized "java/lang/IndexOutOfBoundsException", Cond.classLink RX4 63 "java/lang/IllegalArgumentException", Cond.initialized "java/lang/IllegalArgumentException", Cond.classLink RX4 123 "java/lang/UnsupportedOperationException", Cond.initialized "java/lang/UnsupportedOperationException", Cond.classLink RX4 73 "java/lang/IllegalStateException", Cond.initialized "java/lang/IllegalStateException", Cond.fieldLink RX4 13 "PaperMachine" "machineWidth" "I", Cond.fieldLink RX4 27 "PaperMachine" "orderBook" "LPaperMachine$OrderBook;", Cond.methodLink RX4 86 yX4_isGrade, Cond.instanceMethod yX4_isGrade, Cond.selects RX4 yX4_isGrade yX4_isGrade, Cond.code yX4_isGrade cX4_isGrade 2 (some .boolean), Cond.fieldLink RX4 70 "PaperMachine" "gradeCount" "I"]
def wsL_order_r2 : List Cond := [Cond.methodLink RX4 55 yX4_isWithin, Cond.static yX4_isWithin, Cond.code yX4_isWithin cX4_isWithin 3 (some .boolean), Cond.methodLink RX4 128 yX3_isFull, Cond.instanceMethod yX3_isFull, Cond.selects RX3 yX3_isFull yX3_isFull, Cond.initialized RX3, Cond.code yX3_isFull cX3_isFull 1 (some .boolean), Cond.fieldLink RX3 24 "PaperMachine$OrderBook" "count" "I", Cond.methodLink RX4 134 yX3_write, Cond.instanceMethod yX3_write, Cond.selects RX3 yX3_write yX3_write, Cond.code yX3_write cX3_write 5 (some .int), Cond.fieldLink RX3 9 "PaperMachine$OrderBook" "grades" "[I", Cond.fieldLink RX3 15 "PaperMachine$OrderBook" "widths" "[I", Cond.fieldLink RX3 18 "PaperMachine$OrderBook" "rollsCut" "[I", Cond.fieldLink RX3 21 "PaperMachine$OrderBook" "lacking" "[I", Cond.methodLink RX3 28 yX3_isFull]
def wsL_order : List Cond := .codeWith yL_order cL_order 6 (some .int) [(0, 12, 15, 23), (0, 12, 19, 13), (0, 12, 23, 41), (0, 12, 27, 15)] :: ((wsL_order_r1 ++ wsL_order_r2) ++ wsX40 ++ wsX30 ++ (vx_atM "java/lang/ArrayIndexOutOfBoundsException" ["java/lang/IndexOutOfBoundsException", "java/lang/RuntimeException", "java/lang/Exception"]).filter goodWord ++ (vx_atS RX4 93 "java/lang/IndexOutOfBoundsException" ["java/lang/RuntimeException", "java/lang/Exception"]).filter goodWord ++ (vx_atS RX4 67 "java/lang/IllegalArgumentException" ["java/lang/RuntimeException", "java/lang/Exception"]).filter goodWord ++ (vx_atS RX4 127 "java/lang/UnsupportedOperationException" ["java/lang/RuntimeException", "java/lang/Exception"]).filter goodWord ++ (vx_atS RX4 77 "java/lang/IllegalStateException" ["java/lang/RuntimeException", "java/lang/Exception"]).filter goodWord)
def wsL_cancel : List Cond := .codeWith yL_cancel cL_cancel 4 (some .int) [(0, 9, 12, 23), (0, 9, 15, 15)] :: ([.classLink RL 23 "java/lang/IndexOutOfBoundsException", .classLink RL 15 "java/lang/IllegalStateException", .methodLink RL 43 yX4_cancel, .instanceMethod yX4_cancel, .selects RX4 yX4_cancel yX4_cancel, .initialized RX4, .code yX4_cancel cX4_cancel 3 (some .int), .classLink RX4 89 "java/lang/IndexOutOfBoundsException", .initialized "java/lang/IndexOutOfBoundsException", .classLink RX4 73 "java/lang/IllegalStateException", .initialized "java/lang/IllegalStateException", .fieldLink RX4 27 "PaperMachine" "orderBook" "LPaperMachine$OrderBook;", .fieldLink RX4 143 "PaperMachine$OrderBook" "lacking" "[I", .methodLink RX4 138 yX3_has, .instanceMethod yX3_has, .selects RX3 yX3_has yX3_has, .initialized RX3, .code yX3_has cX3_has 2 (some .boolean), .fieldLink RX3 24 "PaperMachine$OrderBook" "count" "I"] ++ wsX40 ++ wsX30 ++ (vx_atM "java/lang/ArrayIndexOutOfBoundsException" ["java/lang/IndexOutOfBoundsException", "java/lang/RuntimeException", "java/lang/Exception"]).filter goodWord ++ (vx_atS RX4 93 "java/lang/IndexOutOfBoundsException" ["java/lang/RuntimeException", "java/lang/Exception"]).filter goodWord ++ (vx_atS RX4 77 "java/lang/IllegalStateException" ["java/lang/RuntimeException", "java/lang/Exception"]).filter goodWord)
def wsL_cut : List Cond := .codeWith yL_cut cL_cut 4 (some .int) [(0, 9, 12, 23)] :: ([.classLink RL 23 "java/lang/IndexOutOfBoundsException", .methodLink RL 46 yX4_cut, .instanceMethod yX4_cut, .selects RX4 yX4_cut yX4_cut, .initialized RX4, .code yX4_cut cX4_cut 2 (some .int), .classLink RX4 89 "java/lang/IndexOutOfBoundsException", .initialized "java/lang/IndexOutOfBoundsException", .fieldLink RX4 27 "PaperMachine" "orderBook" "LPaperMachine$OrderBook;", .fieldLink RX4 148 "PaperMachine$OrderBook" "rollsCut" "[I", .methodLink RX4 138 yX3_has, .instanceMethod yX3_has, .selects RX3 yX3_has yX3_has, .initialized RX3, .code yX3_has cX3_has 2 (some .boolean), .fieldLink RX3 24 "PaperMachine$OrderBook" "count" "I"] ++ wsX40 ++ wsX30 ++ (vx_atM "java/lang/ArrayIndexOutOfBoundsException" ["java/lang/IndexOutOfBoundsException", "java/lang/RuntimeException", "java/lang/Exception"]).filter goodWord ++ (vx_atS RX4 93 "java/lang/IndexOutOfBoundsException" ["java/lang/RuntimeException", "java/lang/Exception"]).filter goodWord)
def wsL_lacks : List Cond := .codeWith yL_lacks cL_lacks 4 (some .int) [(0, 9, 12, 23)] :: ([.classLink RL 23 "java/lang/IndexOutOfBoundsException", .methodLink RL 49 yX4_lacks, .instanceMethod yX4_lacks, .selects RX4 yX4_lacks yX4_lacks, .initialized RX4, .code yX4_lacks cX4_lacks 2 (some .int), .classLink RX4 89 "java/lang/IndexOutOfBoundsException", .initialized "java/lang/IndexOutOfBoundsException", .fieldLink RX4 27 "PaperMachine" "orderBook" "LPaperMachine$OrderBook;", .fieldLink RX4 143 "PaperMachine$OrderBook" "lacking" "[I", .methodLink RX4 138 yX3_has, .instanceMethod yX3_has, .selects RX3 yX3_has yX3_has, .initialized RX3, .code yX3_has cX3_has 2 (some .boolean), .fieldLink RX3 24 "PaperMachine$OrderBook" "count" "I"] ++ wsX40 ++ wsX30 ++ (vx_atM "java/lang/ArrayIndexOutOfBoundsException" ["java/lang/IndexOutOfBoundsException", "java/lang/RuntimeException", "java/lang/Exception"]).filter goodWord ++ (vx_atS RX4 93 "java/lang/IndexOutOfBoundsException" ["java/lang/RuntimeException", "java/lang/Exception"]).filter goodWord)
def wsL_trim_r1 : List Cond := [Cond.classLink RL 23 "java/lang/IndexOutOfBoundsException", Cond.methodLink RL 52 yX4_trim, Cond.instanceMethod yX4_trim, Cond.selects RX4 yX4_trim yX4_trim, Cond.initialized RX4, Cond.code yX4_trim cX4_trim 2 (some .int), Cond.classLink RX4 89 "java/lang/IndexOutOfBoundsException", Cond.initialized "java/lang/IndexOutOfBoundsException", Cond.fieldLink RX4 34 "PaperMachine" "cutter" "LPaperMachine$Cutter;", Cond.fieldLink RX4 27 "PaperMachine" "orderBook" "LPaperMachine$OrderBook;", Cond.fieldLink RX4 13 "PaperMachine" "machineWidth" "I", Cond.methodLink RX4 86 yX4_isGrade, Cond.instanceMethod yX4_isGrade, Cond.selects RX4 yX4_isGrade yX4_isGrade, Cond.code yX4_isGrade cX4_isGrade 2 (some .boolean), Cond.fieldLink RX4 70 "PaperMachine" "gradeCount" "I", Cond.methodLink RX4 151 yX1_load, Cond.instanceMethod yX1_load, Cond.selects RX1 yX1_load yX1_load, Cond.initialized RX1, Cond.code yX1_load cX1_load 7 none, Cond.methodLink RX1 30 Lib.Math.min.name, Cond.static Lib.Math.min.name, Cond.initialized "java/lang/Math"]
def wsL_trim_r2 : List Cond := [Cond.code Lib.Math.min.name Lib.Math.min.code 2 (some .int), Cond.methodLink RX1 36 Lib.Math.max.name, Cond.static Lib.Math.max.name, Cond.code Lib.Math.max.name Lib.Math.max.code 2 (some .int), Cond.fieldLink RX1 39 "PaperMachine$Cutter" "room" "I", Cond.fieldLink RX1 49 "PaperMachine$OrderBook" "grades" "[I", Cond.fieldLink RX1 18 "PaperMachine$Cutter" "widths" "[I", Cond.fieldLink RX1 52 "PaperMachine$OrderBook" "widths" "[I", Cond.fieldLink RX1 21 "PaperMachine$Cutter" "mostRolls" "[I", Cond.fieldLink RX1 53 "PaperMachine$OrderBook" "lacking" "[I", Cond.fieldLink RX1 24 "PaperMachine$Cutter" "widestFrom" "[I", Cond.methodLink RX1 43 yX3_has, Cond.instanceMethod yX3_has, Cond.selects RX3 yX3_has yX3_has, Cond.initialized RX3, Cond.code yX3_has cX3_has 2 (some .boolean), Cond.fieldLink RX3 24 "PaperMachine$OrderBook" "count" "I", Cond.methodLink RX4 155 yX1_sumBySearch, Cond.instanceMethod yX1_sumBySearch, Cond.selects RX1 yX1_sumBySearch yX1_sumBySearch, Cond.code yX1_sumBySearch cX1_sumBySearch 1 (some .int), Cond.fieldLink RX1 56 "PaperMachine$Cutter" "bestSum" "I", Cond.fieldLink RX1 9 "PaperMachine$Cutter" "best" "[I", Cond.methodLink RX1 59 yJ7_fill_53178]
def wsL_trim_r3 : List Cond := [Cond.static yJ7_fill_53178, Cond.initialized RJ7, Cond.code yJ7_fill_53178 cJ7_fill_53178 4 none, Cond.methodLink RX1 65 yX1_search, Cond.static yX1_search, Cond.code yX1_search cX1_search 7 none, Cond.fieldLink RX1 15 "PaperMachine$Cutter" "trial" "[I", Cond.methodLink RX1 69 yX1_keepIfGreater, Cond.instanceMethod yX1_keepIfGreater, Cond.selects RX1 yX1_keepIfGreater yX1_keepIfGreater, Cond.code yX1_keepIfGreater cX1_keepIfGreater 2 none, Cond.methodLink RX1 73 arraycopyName, Cond.native arraycopyName, Cond.static arraycopyName, Cond.initialized "java/lang/System"]
def wsL_trim : List Cond := .codeWith yL_trim cL_trim 4 (some .int) [(0, 9, 12, 23)] :: ((wsL_trim_r1 ++ (wsL_trim_r2 ++ wsL_trim_r3)) ++ wsX40 ++ wsX10 ++ wsX30 ++ (vx_atM "java/lang/ArrayIndexOutOfBoundsException" ["java/lang/IndexOutOfBoundsException", "java/lang/RuntimeException", "java/lang/Exception"]).filter goodWord ++ (vx_atS RX4 93 "java/lang/IndexOutOfBoundsException" ["java/lang/RuntimeException", "java/lang/Exception"]).filter goodWord)
def wsL_trimByTable_r1 : List Cond := [Cond.classLink RL 23 "java/lang/IndexOutOfBoundsException", Cond.methodLink RL 55 yX4_trimByTable, Cond.instanceMethod yX4_trimByTable, Cond.selects RX4 yX4_trimByTable yX4_trimByTable, Cond.initialized RX4, Cond.code yX4_trimByTable cX4_trimByTable 2 (some .int), Cond.classLink RX4 89 "java/lang/IndexOutOfBoundsException", Cond.initialized "java/lang/IndexOutOfBoundsException", Cond.fieldLink RX4 34 "PaperMachine" "cutter" "LPaperMachine$Cutter;", Cond.fieldLink RX4 27 "PaperMachine" "orderBook" "LPaperMachine$OrderBook;", Cond.fieldLink RX4 13 "PaperMachine" "machineWidth" "I", Cond.methodLink RX4 86 yX4_isGrade, Cond.instanceMethod yX4_isGrade, Cond.selects RX4 yX4_isGrade yX4_isGrade, Cond.code yX4_isGrade cX4_isGrade 2 (some .boolean), Cond.fieldLink RX4 70 "PaperMachine" "gradeCount" "I", Cond.methodLink RX4 151 yX1_load, Cond.instanceMethod yX1_load, Cond.selects RX1 yX1_load yX1_load, Cond.initialized RX1, Cond.code yX1_load cX1_load 7 none, Cond.methodLink RX1 30 Lib.Math.min.name, Cond.static Lib.Math.min.name, Cond.initialized "java/lang/Math"]
def wsL_trimByTable_r2 : List Cond := [Cond.code Lib.Math.min.name Lib.Math.min.code 2 (some .int), Cond.methodLink RX1 36 Lib.Math.max.name, Cond.static Lib.Math.max.name, Cond.code Lib.Math.max.name Lib.Math.max.code 2 (some .int), Cond.fieldLink RX1 39 "PaperMachine$Cutter" "room" "I", Cond.fieldLink RX1 49 "PaperMachine$OrderBook" "grades" "[I", Cond.fieldLink RX1 18 "PaperMachine$Cutter" "widths" "[I", Cond.fieldLink RX1 52 "PaperMachine$OrderBook" "widths" "[I", Cond.fieldLink RX1 21 "PaperMachine$Cutter" "mostRolls" "[I", Cond.fieldLink RX1 53 "PaperMachine$OrderBook" "lacking" "[I", Cond.fieldLink RX1 24 "PaperMachine$Cutter" "widestFrom" "[I", Cond.methodLink RX1 43 yX3_has, Cond.instanceMethod yX3_has, Cond.selects RX3 yX3_has yX3_has, Cond.initialized RX3, Cond.code yX3_has cX3_has 2 (some .boolean), Cond.fieldLink RX3 24 "PaperMachine$OrderBook" "count" "I", Cond.methodLink RX4 158 yX1_sumByTable, Cond.instanceMethod yX1_sumByTable, Cond.selects RX1 yX1_sumByTable yX1_sumByTable, Cond.code yX1_sumByTable cX1_sumByTable 3 (some .int), Cond.fieldLink RX1 27 "PaperMachine$Cutter" "fewest" "[I", Cond.methodLink RX1 59 yJ7_fill_53178, Cond.static yJ7_fill_53178]
def wsL_trimByTable_r3 : List Cond := [Cond.initialized RJ7, Cond.code yJ7_fill_53178 cJ7_fill_53178 4 none, Cond.methodLink RX1 79 yX1_addRollToTable, Cond.instanceMethod yX1_addRollToTable, Cond.selects RX1 yX1_addRollToTable yX1_addRollToTable, Cond.code yX1_addRollToTable cX1_addRollToTable 3 none]
def wsL_trimByTable : List Cond := .codeWith yL_trimByTable cL_trimByTable 4 (some .int) [(0, 9, 12, 23)] :: ((wsL_trimByTable_r1 ++ (wsL_trimByTable_r2 ++ wsL_trimByTable_r3)) ++ wsX40 ++ wsX10 ++ wsX30 ++ (vx_atM "java/lang/ArrayIndexOutOfBoundsException" ["java/lang/IndexOutOfBoundsException", "java/lang/RuntimeException", "java/lang/Exception"]).filter goodWord ++ (vx_atS RX4 93 "java/lang/IndexOutOfBoundsException" ["java/lang/RuntimeException", "java/lang/Exception"]).filter goodWord)
def wsL_inCut_r1 : List Cond := [Cond.classLink RL 23 "java/lang/IndexOutOfBoundsException", Cond.methodLink RL 58 yX4_inCut, Cond.instanceMethod yX4_inCut, Cond.selects RX4 yX4_inCut yX4_inCut, Cond.initialized RX4, Cond.code yX4_inCut cX4_inCut 2 (some .int), Cond.classLink RX4 89 "java/lang/IndexOutOfBoundsException", Cond.initialized "java/lang/IndexOutOfBoundsException", Cond.fieldLink RX4 27 "PaperMachine" "orderBook" "LPaperMachine$OrderBook;", Cond.fieldLink RX4 34 "PaperMachine" "cutter" "LPaperMachine$Cutter;", Cond.fieldLink RX4 161 "PaperMachine$OrderBook" "grades" "[I", Cond.fieldLink RX4 13 "PaperMachine" "machineWidth" "I", Cond.fieldLink RX4 164 "PaperMachine$Cutter" "best" "[I", Cond.methodLink RX4 138 yX3_has, Cond.instanceMethod yX3_has, Cond.selects RX3 yX3_has yX3_has, Cond.initialized RX3, Cond.code yX3_has cX3_has 2 (some .boolean), Cond.fieldLink RX3 24 "PaperMachine$OrderBook" "count" "I", Cond.methodLink RX4 151 yX1_load, Cond.instanceMethod yX1_load, Cond.selects RX1 yX1_load yX1_load, Cond.initialized RX1, Cond.code yX1_load cX1_load 7 none]
def wsL_inCut_r2 : List Cond := [Cond.methodLink RX1 30 Lib.Math.min.name, Cond.static Lib.Math.min.name, Cond.initialized "java/lang/Math", Cond.code Lib.Math.min.name Lib.Math.min.code 2 (some .int), Cond.methodLink RX1 36 Lib.Math.max.name, Cond.static Lib.Math.max.name, Cond.code Lib.Math.max.name Lib.Math.max.code 2 (some .int), Cond.fieldLink RX1 39 "PaperMachine$Cutter" "room" "I", Cond.fieldLink RX1 49 "PaperMachine$OrderBook" "grades" "[I", Cond.fieldLink RX1 18 "PaperMachine$Cutter" "widths" "[I", Cond.fieldLink RX1 52 "PaperMachine$OrderBook" "widths" "[I", Cond.fieldLink RX1 21 "PaperMachine$Cutter" "mostRolls" "[I", Cond.fieldLink RX1 53 "PaperMachine$OrderBook" "lacking" "[I", Cond.fieldLink RX1 24 "PaperMachine$Cutter" "widestFrom" "[I", Cond.methodLink RX1 43 yX3_has, Cond.methodLink RX4 155 yX1_sumBySearch, Cond.instanceMethod yX1_sumBySearch, Cond.selects RX1 yX1_sumBySearch yX1_sumBySearch, Cond.code yX1_sumBySearch cX1_sumBySearch 1 (some .int), Cond.fieldLink RX1 56 "PaperMachine$Cutter" "bestSum" "I", Cond.fieldLink RX1 9 "PaperMachine$Cutter" "best" "[I", Cond.methodLink RX1 59 yJ7_fill_53178, Cond.static yJ7_fill_53178, Cond.initialized RJ7]
def wsL_inCut_r3 : List Cond := [Cond.code yJ7_fill_53178 cJ7_fill_53178 4 none, Cond.methodLink RX1 65 yX1_search, Cond.static yX1_search, Cond.code yX1_search cX1_search 7 none, Cond.fieldLink RX1 15 "PaperMachine$Cutter" "trial" "[I", Cond.methodLink RX1 69 yX1_keepIfGreater, Cond.instanceMethod yX1_keepIfGreater, Cond.selects RX1 yX1_keepIfGreater yX1_keepIfGreater, Cond.code yX1_keepIfGreater cX1_keepIfGreater 2 none, Cond.methodLink RX1 73 arraycopyName, Cond.native arraycopyName, Cond.static arraycopyName, Cond.initialized "java/lang/System"]
def wsL_inCut : List Cond := .codeWith yL_inCut cL_inCut 4 (some .int) [(0, 9, 12, 23)] :: ((wsL_inCut_r1 ++ (wsL_inCut_r2 ++ wsL_inCut_r3)) ++ wsX40 ++ wsX30 ++ wsX10 ++ (vx_atM "java/lang/ArrayIndexOutOfBoundsException" ["java/lang/IndexOutOfBoundsException", "java/lang/RuntimeException", "java/lang/Exception"]).filter goodWord ++ (vx_atS RX4 93 "java/lang/IndexOutOfBoundsException" ["java/lang/RuntimeException", "java/lang/Exception"]).filter goodWord)
def wsL_leastHours_r1 : List Cond := [Cond.classLink RL 23 "java/lang/IndexOutOfBoundsException", Cond.methodLink RL 61 yX4_leastHours, Cond.instanceMethod yX4_leastHours, Cond.selects RX4 yX4_leastHours yX4_leastHours, Cond.initialized RX4, Cond.code yX4_leastHours cX4_leastHours 4 (some .int), Cond.classLink RX4 89 "java/lang/IndexOutOfBoundsException", Cond.initialized "java/lang/IndexOutOfBoundsException", Cond.fieldLink RX4 27 "PaperMachine" "orderBook" "LPaperMachine$OrderBook;", Cond.fieldLink RX4 13 "PaperMachine" "machineWidth" "I", Cond.methodLink RX4 177 Lib.Math.max.name, Cond.static Lib.Math.max.name, Cond.initialized "java/lang/Math", Cond.code Lib.Math.max.name Lib.Math.max.code 2 (some .int), Cond.methodLink RX4 86 yX4_isGrade, Cond.instanceMethod yX4_isGrade, Cond.selects RX4 yX4_isGrade yX4_isGrade, Cond.code yX4_isGrade cX4_isGrade 2 (some .boolean), Cond.fieldLink RX4 70 "PaperMachine" "gradeCount" "I", Cond.methodLink RX4 167 yX3_widthLacking, Cond.instanceMethod yX3_widthLacking, Cond.selects RX3 yX3_widthLacking yX3_widthLacking, Cond.initialized RX3, Cond.code yX3_widthLacking cX3_widthLacking 4 (some .int)]
def wsL_leastHours_r2 : List Cond := [Cond.fieldLink RX3 24 "PaperMachine$OrderBook" "count" "I", Cond.fieldLink RX3 9 "PaperMachine$OrderBook" "grades" "[I", Cond.fieldLink RX3 21 "PaperMachine$OrderBook" "lacking" "[I", Cond.fieldLink RX3 15 "PaperMachine$OrderBook" "widths" "[I", Cond.methodLink RX4 170 yX4_quotientUp, Cond.static yX4_quotientUp, Cond.code yX4_quotientUp cX4_quotientUp 2 (some .int), Cond.methodLink RX4 174 yX3_rollsLacking, Cond.instanceMethod yX3_rollsLacking, Cond.selects RX3 yX3_rollsLacking yX3_rollsLacking, Cond.code yX3_rollsLacking cX3_rollsLacking 4 (some .int)]
def wsL_leastHours : List Cond := .codeWith yL_leastHours cL_leastHours 4 (some .int) [(0, 9, 12, 23)] :: ((wsL_leastHours_r1 ++ wsL_leastHours_r2) ++ wsX40 ++ wsX30 ++ (vx_atM "java/lang/ArrayIndexOutOfBoundsException" ["java/lang/IndexOutOfBoundsException", "java/lang/RuntimeException", "java/lang/Exception"]).filter goodWord ++ (vx_atS RX4 93 "java/lang/IndexOutOfBoundsException" ["java/lang/RuntimeException", "java/lang/Exception"]).filter goodWord ++ (vx_atM "java/lang/ArithmeticException" ["java/lang/RuntimeException", "java/lang/Exception"]).filter goodWord)
def wsL_setShare : List Cond := .codeWith yL_setShare cL_setShare 4 (some .int) [(0, 9, 12, 13)] :: ([.classLink RL 13 "java/lang/IllegalArgumentException", .methodLink RL 64 yX4_setShare, .instanceMethod yX4_setShare, .selects RX4 yX4_setShare yX4_setShare, .initialized RX4, .code yX4_setShare cX4_setShare 3 (some .int), .classLink RX4 63 "java/lang/IllegalArgumentException", .initialized "java/lang/IllegalArgumentException", .fieldLink RX4 52 "PaperMachine" "share" "I", .methodLink RX4 55 yX4_isWithin, .static yX4_isWithin, .code yX4_isWithin cX4_isWithin 3 (some .boolean)] ++ wsX40 ++ (vx_atM "java/lang/ArrayIndexOutOfBoundsException" ["java/lang/IndexOutOfBoundsException", "java/lang/RuntimeException", "java/lang/Exception"]).filter goodWord ++ (vx_atS RX4 67 "java/lang/IllegalArgumentException" ["java/lang/RuntimeException", "java/lang/Exception"]).filter goodWord)
def wsL_setContract : List Cond := .codeWith yL_setContract cL_setContract 6 (some .int) [(0, 12, 15, 13)] :: ([.classLink RL 13 "java/lang/IllegalArgumentException", .methodLink RL 67 yX4_setContract, .instanceMethod yX4_setContract, .selects RX4 yX4_setContract yX4_setContract, .initialized RX4, .code yX4_setContract cX4_setContract 5 (some .int), .classLink RX4 63 "java/lang/IllegalArgumentException", .initialized "java/lang/IllegalArgumentException", .fieldLink RX4 41 "PaperMachine" "contract" "LPaperMachine$Contract;", .fieldLink RX4 184 "PaperMachine$Contract" "limit" "I", .fieldLink RX4 187 "PaperMachine$Contract" "firstPrice" "I", .fieldLink RX4 190 "PaperMachine$Contract" "secondPrice" "I", .methodLink RX4 55 yX4_isWithin, .static yX4_isWithin, .code yX4_isWithin cX4_isWithin 3 (some .boolean)] ++ wsX40 ++ wsX00 ++ (vx_atM "java/lang/ArrayIndexOutOfBoundsException" ["java/lang/IndexOutOfBoundsException", "java/lang/RuntimeException", "java/lang/Exception"]).filter goodWord ++ (vx_atS RX4 67 "java/lang/IllegalArgumentException" ["java/lang/RuntimeException", "java/lang/Exception"]).filter goodWord)
def wsL_pass_r1 : List Cond := [Cond.classLink RL 13 "java/lang/IllegalArgumentException", Cond.classLink RL 15 "java/lang/IllegalStateException", Cond.methodLink RL 70 yX4_pass, Cond.instanceMethod yX4_pass, Cond.selects RX4 yX4_pass yX4_pass, Cond.initialized RX4, Cond.code yX4_pass cX4_pass 4 (some .int), Cond.classLink RX4 63 "java/lang/IllegalArgumentException", Cond.initialized "java/lang/IllegalArgumentException", Cond.classLink RX4 73 "java/lang/IllegalStateException", Cond.initialized "java/lang/IllegalStateException", Cond.fieldLink RX4 48 "PaperMachine" "hourBook" "LPaperMachine$HourBook;", Cond.fieldLink RX4 195 "PaperMachine$HourBook" "count" "I", Cond.methodLink RX4 55 yX4_isWithin, Cond.static yX4_isWithin, Cond.code yX4_isWithin cX4_isWithin 3 (some .boolean), Cond.methodLink RX4 200 yX4_passAnHour, Cond.instanceMethod yX4_passAnHour, Cond.selects RX4 yX4_passAnHour yX4_passAnHour, Cond.code yX4_passAnHour cX4_passAnHour 4 (some .int), Cond.fieldLink RX4 17 "PaperMachine" "machineGrade" "I", Cond.fieldLink RX4 96 "PaperMachine" "changeHours" "I", Cond.fieldLink RX4 34 "PaperMachine" "cutter" "LPaperMachine$Cutter;", Cond.fieldLink RX4 27 "PaperMachine" "orderBook" "LPaperMachine$OrderBook;"]
def wsL_pass_r2 : List Cond := [Cond.fieldLink RX4 13 "PaperMachine" "machineWidth" "I", Cond.fieldLink RX4 164 "PaperMachine$Cutter" "best" "[I", Cond.methodLink RX4 86 yX4_isGrade, Cond.instanceMethod yX4_isGrade, Cond.selects RX4 yX4_isGrade yX4_isGrade, Cond.code yX4_isGrade cX4_isGrade 2 (some .boolean), Cond.fieldLink RX4 70 "PaperMachine" "gradeCount" "I", Cond.methodLink RX4 245 yX2_writeNothing, Cond.instanceMethod yX2_writeNothing, Cond.selects RX2 yX2_writeNothing yX2_writeNothing, Cond.initialized RX2, Cond.code yX2_writeNothing cX2_writeNothing 1 none, Cond.methodLink RX2 29 yX2_writeMade, Cond.instanceMethod yX2_writeMade, Cond.selects RX2 yX2_writeMade yX2_writeMade, Cond.code yX2_writeMade cX2_writeMade 5 none, Cond.fieldLink RX2 25 "PaperMachine$HourBook" "count" "I", Cond.fieldLink RX2 9 "PaperMachine$HourBook" "kinds" "[C", Cond.fieldLink RX2 15 "PaperMachine$HourBook" "freshIn" "[I", Cond.fieldLink RX2 19 "PaperMachine$HourBook" "paperOut" "[I", Cond.fieldLink RX2 22 "PaperMachine$HourBook" "lossOut" "[I", Cond.fieldLink RX2 33 "PaperMachine$HourBook" "freshSum" "J", Cond.fieldLink RX2 37 "PaperMachine$HourBook" "paperSum" "J", Cond.fieldLink RX2 40 "PaperMachine$HourBook" "lossSum" "J"]
def wsL_pass_r3 : List Cond := [Cond.methodLink RX4 118 yX4_massOfAnHour, Cond.instanceMethod yX4_massOfAnHour, Cond.selects RX4 yX4_massOfAnHour yX4_massOfAnHour, Cond.code yX4_massOfAnHour cX4_massOfAnHour 2 (some .int), Cond.fieldLink RX4 9 "PaperMachine" "weights" "[I", Cond.methodLink RX4 248 yX4_make, Cond.instanceMethod yX4_make, Cond.selects RX4 yX4_make yX4_make, Cond.code yX4_make cX4_make 7 none, Cond.fieldLink RX4 203 "PaperMachine" "brokeKept" "I", Cond.fieldLink RX4 52 "PaperMachine" "share" "I", Cond.methodLink RX4 263 Lib.Math.min.name, Cond.static Lib.Math.min.name, Cond.initialized "java/lang/Math", Cond.code Lib.Math.min.name Lib.Math.min.code 2 (some .int), Cond.fieldLink RX4 229 "PaperMachine$HourBook" "massSum" "J", Cond.fieldLink RX4 226 "PaperMachine" "steamSum" "J", Cond.fieldLink RX4 41 "PaperMachine" "contract" "LPaperMachine$Contract;", Cond.methodLink RX4 266 yX2_writeMade, Cond.methodLink RX4 270 yX0_cost, Cond.instanceMethod yX0_cost, Cond.selects RX0 yX0_cost yX0_cost, Cond.initialized RX0, Cond.code yX0_cost cX0_cost 3 (some .long)]
def wsL_pass_r4 : List Cond := [Cond.fieldLink RX0 7 "PaperMachine$Contract" "limit" "I", Cond.methodLink RX0 19 Lib.Math.min.name, Cond.fieldLink RX0 13 "PaperMachine$Contract" "firstPrice" "I", Cond.fieldLink RX0 16 "PaperMachine$Contract" "secondPrice" "I", Cond.methodLink RX4 151 yX1_load, Cond.instanceMethod yX1_load, Cond.selects RX1 yX1_load yX1_load, Cond.initialized RX1, Cond.code yX1_load cX1_load 7 none, Cond.methodLink RX1 30 Lib.Math.min.name, Cond.methodLink RX1 36 Lib.Math.max.name, Cond.static Lib.Math.max.name, Cond.code Lib.Math.max.name Lib.Math.max.code 2 (some .int), Cond.fieldLink RX1 39 "PaperMachine$Cutter" "room" "I", Cond.fieldLink RX1 49 "PaperMachine$OrderBook" "grades" "[I", Cond.fieldLink RX1 18 "PaperMachine$Cutter" "widths" "[I", Cond.fieldLink RX1 52 "PaperMachine$OrderBook" "widths" "[I", Cond.fieldLink RX1 21 "PaperMachine$Cutter" "mostRolls" "[I", Cond.fieldLink RX1 53 "PaperMachine$OrderBook" "lacking" "[I", Cond.fieldLink RX1 24 "PaperMachine$Cutter" "widestFrom" "[I", Cond.methodLink RX1 43 yX3_has, Cond.instanceMethod yX3_has, Cond.selects RX3 yX3_has yX3_has, Cond.initialized RX3]
def wsL_pass_r5 : List Cond := [Cond.code yX3_has cX3_has 2 (some .boolean), Cond.fieldLink RX3 24 "PaperMachine$OrderBook" "count" "I", Cond.methodLink RX4 155 yX1_sumBySearch, Cond.instanceMethod yX1_sumBySearch, Cond.selects RX1 yX1_sumBySearch yX1_sumBySearch, Cond.code yX1_sumBySearch cX1_sumBySearch 1 (some .int), Cond.fieldLink RX1 56 "PaperMachine$Cutter" "bestSum" "I", Cond.fieldLink RX1 9 "PaperMachine$Cutter" "best" "[I", Cond.methodLink RX1 59 yJ7_fill_53178, Cond.static yJ7_fill_53178, Cond.initialized RJ7, Cond.code yJ7_fill_53178 cJ7_fill_53178 4 none, Cond.methodLink RX1 65 yX1_search, Cond.static yX1_search, Cond.code yX1_search cX1_search 7 none, Cond.fieldLink RX1 15 "PaperMachine$Cutter" "trial" "[I", Cond.methodLink RX1 69 yX1_keepIfGreater, Cond.instanceMethod yX1_keepIfGreater, Cond.selects RX1 yX1_keepIfGreater yX1_keepIfGreater, Cond.code yX1_keepIfGreater cX1_keepIfGreater 2 none, Cond.methodLink RX1 73 arraycopyName, Cond.native arraycopyName, Cond.static arraycopyName, Cond.initialized "java/lang/System"]
def wsL_pass_r6 : List Cond := [Cond.methodLink RX4 252 yX4_quotient, Cond.static yX4_quotient, Cond.code yX4_quotient cX4_quotient 2 (some .int), Cond.methodLink RX4 255 yX2_writeTrim, Cond.instanceMethod yX2_writeTrim, Cond.selects RX2 yX2_writeTrim yX2_writeTrim, Cond.code yX2_writeTrim cX2_writeTrim 2 none, Cond.fieldLink RX2 43 "PaperMachine$HourBook" "trimSum" "J", Cond.fieldLink RX2 46 "PaperMachine$HourBook" "paperHours" "I", Cond.methodLink RX4 259 yX3_takeOff, Cond.instanceMethod yX3_takeOff, Cond.selects RX3 yX3_takeOff yX3_takeOff, Cond.code yX3_takeOff cX3_takeOff 4 (some .int), Cond.fieldLink RX3 18 "PaperMachine$OrderBook" "rollsCut" "[I", Cond.fieldLink RX3 21 "PaperMachine$OrderBook" "lacking" "[I"]
def wsL_pass : List Cond := .codeWith yL_pass cL_pass 4 (some .int) [(0, 9, 12, 13), (0, 9, 15, 15)] :: ((wsL_pass_r1 ++ (wsL_pass_r2 ++ (wsL_pass_r3 ++ (wsL_pass_r4 ++ (wsL_pass_r5 ++ wsL_pass_r6))))) ++ wsX40 ++ wsX20 ++ wsX10 ++ wsX00 ++ wsX30 ++ (vx_atM "java/lang/ArrayIndexOutOfBoundsException" ["java/lang/IndexOutOfBoundsException", "java/lang/RuntimeException", "java/lang/Exception"]).filter goodWord ++ (vx_atS RX4 67 "java/lang/IllegalArgumentException" ["java/lang/RuntimeException", "java/lang/Exception"]).filter goodWord ++ (vx_atS RX4 77 "java/lang/IllegalStateException" ["java/lang/RuntimeException", "java/lang/Exception"]).filter goodWord ++ (vx_atM "java/lang/ArithmeticException" ["java/lang/RuntimeException", "java/lang/Exception"]).filter goodWord)
def wsL_made : List Cond := .codeWith yL_made cL_made 4 (some .int) [(0, 9, 12, 23)] :: ([.classLink RL 23 "java/lang/IndexOutOfBoundsException", .methodLink RL 73 yX4_made, .instanceMethod yX4_made, .selects RX4 yX4_made yX4_made, .initialized RX4, .code yX4_made cX4_made 2 (some .char), .classLink RX4 89 "java/lang/IndexOutOfBoundsException", .initialized "java/lang/IndexOutOfBoundsException", .fieldLink RX4 48 "PaperMachine" "hourBook" "LPaperMachine$HourBook;", .fieldLink RX4 222 "PaperMachine$HourBook" "kinds" "[C", .methodLink RX4 219 yX2_has, .instanceMethod yX2_has, .selects RX2 yX2_has yX2_has, .initialized RX2, .code yX2_has cX2_has 2 (some .boolean), .fieldLink RX2 25 "PaperMachine$HourBook" "count" "I"] ++ wsX40 ++ wsX20 ++ (vx_atM "java/lang/ArrayIndexOutOfBoundsException" ["java/lang/IndexOutOfBoundsException", "java/lang/RuntimeException", "java/lang/Exception"]).filter goodWord ++ (vx_atS RX4 93 "java/lang/IndexOutOfBoundsException" ["java/lang/RuntimeException", "java/lang/Exception"]).filter goodWord)
def wsL_paperShare : List Cond := .codeWith yL_paperShare cL_paperShare 3 (some .int) [(0, 8, 11, 81)] :: ([.classLink RL 81 "java/lang/ArithmeticException", .methodLink RL 77 yX4_paperShare, .instanceMethod yX4_paperShare, .selects RX4 yX4_paperShare yX4_paperShare, .initialized RX4, .code yX4_paperShare cX4_paperShare 1 (some .float), .classLink RX4 232 "java/lang/ArithmeticException", .initialized "java/lang/ArithmeticException", .fieldLink RX4 48 "PaperMachine" "hourBook" "LPaperMachine$HourBook;", .fieldLink RX4 229 "PaperMachine$HourBook" "massSum" "J", .fieldLink RX4 213 "PaperMachine$HourBook" "paperSum" "J"] ++ wsX40 ++ wsX20 ++ (vx_atM "java/lang/ArrayIndexOutOfBoundsException" ["java/lang/IndexOutOfBoundsException", "java/lang/RuntimeException", "java/lang/Exception"]).filter goodWord ++ (vx_atS RX4 236 "java/lang/ArithmeticException" ["java/lang/RuntimeException", "java/lang/Exception"]).filter goodWord)
def wsL_meanTrim : List Cond := .codeWith yL_meanTrim cL_meanTrim 3 (some .int) [(0, 7, 10, 81)] :: ([.classLink RL 81 "java/lang/ArithmeticException", .methodLink RL 83 yX4_meanTrim, .instanceMethod yX4_meanTrim, .selects RX4 yX4_meanTrim yX4_meanTrim, .initialized RX4, .code yX4_meanTrim cX4_meanTrim 1 (some .double), .classLink RX4 232 "java/lang/ArithmeticException", .initialized "java/lang/ArithmeticException", .fieldLink RX4 48 "PaperMachine" "hourBook" "LPaperMachine$HourBook;", .fieldLink RX4 237 "PaperMachine$HourBook" "paperHours" "I", .fieldLink RX4 242 "PaperMachine$HourBook" "trimSum" "J"] ++ wsX40 ++ wsX20 ++ (vx_atM "java/lang/ArrayIndexOutOfBoundsException" ["java/lang/IndexOutOfBoundsException", "java/lang/RuntimeException", "java/lang/Exception"]).filter goodWord ++ (vx_atS RX4 236 "java/lang/ArithmeticException" ["java/lang/RuntimeException", "java/lang/Exception"]).filter goodWord)
def wsL_law0_r1 : List Cond := [Cond.classLink RL 8 RX4, Cond.instantiable RX4 13, Cond.initialized RX4, Cond.classLink RL 88 RX5, Cond.instantiable RX5 29, Cond.initialized RX5, Cond.arrayClass .long, Cond.arrayClass .double, Cond.methodLink RL 87 yX4_init, Cond.instanceMethod yX4_init, Cond.code yX4_init cX4_init 1 none, Cond.methodLink RX4 1 objectInit, Cond.instanceMethod objectInit, Cond.code objectInit ⟨#[0xb1]⟩ 1 none, Cond.arrayClass .int, Cond.fieldLink RX4 9 "PaperMachine" "weights" "[I", Cond.fieldLink RX4 13 "PaperMachine" "machineWidth" "I", Cond.fieldLink RX4 17 "PaperMachine" "machineGrade" "I", Cond.fieldLink RX4 20 "PaperMachine" "upward" "Z", Cond.classLink RX4 24 RX3, Cond.instantiable RX3 5, Cond.initialized RX3, Cond.fieldLink RX4 27 "PaperMachine" "orderBook" "LPaperMachine$OrderBook;", Cond.classLink RX4 31 RX1]
def wsL_law0_r2 : List Cond := [Cond.instantiable RX1 8, Cond.initialized RX1, Cond.fieldLink RX4 34 "PaperMachine" "cutter" "LPaperMachine$Cutter;", Cond.classLink RX4 38 RX0, Cond.instantiable RX0 3, Cond.initialized RX0, Cond.fieldLink RX4 41 "PaperMachine" "contract" "LPaperMachine$Contract;", Cond.classLink RX4 45 RX2, Cond.instantiable RX2 11, Cond.initialized RX2, Cond.fieldLink RX4 48 "PaperMachine" "hourBook" "LPaperMachine$HourBook;", Cond.fieldLink RX4 52 "PaperMachine" "share" "I", Cond.instanceMethod yX3_init, Cond.code yX3_init cX3_init 1 none, Cond.methodLink RX3 3 objectInit, Cond.fieldLink RX3 9 "PaperMachine$OrderBook" "grades" "[I", Cond.fieldLink RX3 15 "PaperMachine$OrderBook" "widths" "[I", Cond.fieldLink RX3 18 "PaperMachine$OrderBook" "rollsCut" "[I", Cond.fieldLink RX3 21 "PaperMachine$OrderBook" "lacking" "[I", Cond.instanceMethod yX1_init, Cond.code yX1_init cX1_init 1 none, Cond.methodLink RX1 3 objectInit, Cond.fieldLink RX1 9 "PaperMachine$Cutter" "best" "[I", Cond.fieldLink RX1 15 "PaperMachine$Cutter" "trial" "[I"]
def wsL_law0_r3 : List Cond := [Cond.fieldLink RX1 18 "PaperMachine$Cutter" "widths" "[I", Cond.fieldLink RX1 21 "PaperMachine$Cutter" "mostRolls" "[I", Cond.fieldLink RX1 24 "PaperMachine$Cutter" "widestFrom" "[I", Cond.fieldLink RX1 27 "PaperMachine$Cutter" "fewest" "[I", Cond.instanceMethod yX0_init, Cond.code yX0_init cX0_init 1 none, Cond.methodLink RX0 1 objectInit, Cond.fieldLink RX0 7 "PaperMachine$Contract" "limit" "I", Cond.fieldLink RX0 13 "PaperMachine$Contract" "firstPrice" "I", Cond.fieldLink RX0 16 "PaperMachine$Contract" "secondPrice" "I", Cond.instanceMethod yX2_init, Cond.code yX2_init cX2_init 1 none, Cond.methodLink RX2 3 objectInit, Cond.arrayClass .char, Cond.fieldLink RX2 9 "PaperMachine$HourBook" "kinds" "[C", Cond.fieldLink RX2 15 "PaperMachine$HourBook" "freshIn" "[I", Cond.fieldLink RX2 19 "PaperMachine$HourBook" "paperOut" "[I", Cond.fieldLink RX2 22 "PaperMachine$HourBook" "lossOut" "[I", Cond.methodLink RL 90 yX5_init, Cond.instanceMethod yX5_init, Cond.code yX5_init cX5_init 1 none, Cond.methodLink RX5 1 objectInit, Cond.fieldLink RX5 9 "PaperMachineModel" "weight" "[I", Cond.fieldLink RX5 13 "PaperMachineModel" "width" "I"]
def wsL_law0_r4 : List Cond := [Cond.fieldLink RX5 17 "PaperMachineModel" "grade" "I", Cond.fieldLink RX5 20 "PaperMachineModel" "isUp" "Z", Cond.fieldLink RX5 24 "PaperMachineModel" "orderGrade" "[I", Cond.fieldLink RX5 27 "PaperMachineModel" "orderWidth" "[I", Cond.fieldLink RX5 30 "PaperMachineModel" "lacks" "[I", Cond.fieldLink RX5 33 "PaperMachineModel" "cut" "[I", Cond.fieldLink RX5 36 "PaperMachineModel" "share" "I", Cond.fieldLink RX5 39 "PaperMachineModel" "limit" "I", Cond.fieldLink RX5 42 "PaperMachineModel" "firstPrice" "I", Cond.fieldLink RX5 45 "PaperMachineModel" "secondPrice" "I", Cond.fieldLink RX5 48 "PaperMachineModel" "made" "[C", Cond.fieldLink RX5 52 "PaperMachineModel" "trial" "[I", Cond.fieldLink RX5 55 "PaperMachineModel" "inCut" "[I", Cond.methodLink RL 91 yL_addGrade, Cond.static yL_addGrade, Cond.initialized RL, Cond.codeWith yL_addGrade cL_addGrade 4 (some .int) [(0, 9, 12, 13), (0, 9, 15, 15)], Cond.classLink RL 13 "java/lang/IllegalArgumentException", Cond.classLink RL 15 "java/lang/IllegalStateException", Cond.methodLink RL 7 yX4_addGrade, Cond.instanceMethod yX4_addGrade, Cond.selects RX4 yX4_addGrade yX4_addGrade, Cond.code yX4_addGrade cX4_addGrade 3 (some .int), Cond.classLink RX4 63 "java/lang/IllegalArgumentException"]
def wsL_law0_r5 : List Cond := [Cond.initialized "java/lang/IllegalArgumentException", Cond.classLink RX4 73 "java/lang/IllegalStateException", Cond.initialized "java/lang/IllegalStateException", Cond.fieldLink RX4 70 "PaperMachine" "gradeCount" "I", Cond.methodLink RX4 55 yX4_isWithin, Cond.static yX4_isWithin, Cond.code yX4_isWithin cX4_isWithin 3 (some .boolean), Cond.methodLink RX4 59 yX4_isWeightTaken, Cond.instanceMethod yX4_isWeightTaken, Cond.selects RX4 yX4_isWeightTaken yX4_isWeightTaken, Cond.code yX4_isWeightTaken cX4_isWeightTaken 3 (some .boolean), Cond.methodLink RL 96 yX5_addGrade, Cond.instanceMethod yX5_addGrade, Cond.selects RX5 yX5_addGrade yX5_addGrade, Cond.code yX5_addGrade cX5_addGrade 2 (some .int), Cond.fieldLink RX5 61 "PaperMachineModel" "grades" "I", Cond.methodLink RX5 64 yX5_in, Cond.static yX5_in, Cond.code yX5_in cX5_in 3 (some .boolean), Cond.methodLink RX5 71 yX5_hasWeight, Cond.instanceMethod yX5_hasWeight, Cond.selects RX5 yX5_hasWeight yX5_hasWeight, Cond.code yX5_hasWeight cX5_hasWeight 4 (some .boolean), Cond.methodLink RX5 75 yX5_goesOn]
def wsL_law0_r6 : List Cond := [Cond.instanceMethod yX5_goesOn, Cond.selects RX5 yX5_goesOn yX5_goesOn, Cond.code yX5_goesOn cX5_goesOn 2 (some .boolean), Cond.fieldLink RX5 58 "PaperMachineModel" "thrown" "I", Cond.methodLink RL 97 yX5_thrown, Cond.instanceMethod yX5_thrown, Cond.selects RX5 yX5_thrown yX5_thrown, Cond.code yX5_thrown cX5_thrown 1 (some .int), Cond.methodLink RL 100 yL_setWidth, Cond.static yL_setWidth, Cond.codeWith yL_setWidth cL_setWidth 4 (some .int) [(0, 9, 12, 13), (0, 9, 15, 15)], Cond.methodLink RL 17 yX4_setWidth, Cond.instanceMethod yX4_setWidth, Cond.selects RX4 yX4_setWidth yX4_setWidth, Cond.code yX4_setWidth cX4_setWidth 3 (some .int), Cond.methodLink RX4 80 yX3_widestOpen, Cond.instanceMethod yX3_widestOpen, Cond.selects RX3 yX3_widestOpen yX3_widestOpen, Cond.code yX3_widestOpen cX3_widestOpen 3 (some .int), Cond.fieldLink RX3 24 "PaperMachine$OrderBook" "count" "I", Cond.methodLink RX3 32 Lib.Math.max.name, Cond.static Lib.Math.max.name, Cond.initialized "java/lang/Math", Cond.code Lib.Math.max.name Lib.Math.max.code 2 (some .int)]
def wsL_law0_r7 : List Cond := [Cond.methodLink RL 102 yX5_setWidth, Cond.instanceMethod yX5_setWidth, Cond.selects RX5 yX5_setWidth yX5_setWidth, Cond.code yX5_setWidth cX5_setWidth 4 (some .int), Cond.fieldLink RX5 68 "PaperMachineModel" "orders" "I", Cond.methodLink RL 103 yL_change, Cond.static yL_change, Cond.codeWith yL_change cL_change 4 (some .int) [(0, 9, 12, 23), (0, 9, 15, 13), (0, 9, 18, 15)], Cond.classLink RL 23 "java/lang/IndexOutOfBoundsException", Cond.methodLink RL 20 yX4_change, Cond.instanceMethod yX4_change, Cond.selects RX4 yX4_change yX4_change, Cond.code yX4_change cX4_change 4 (some .int), Cond.classLink RX4 89 "java/lang/IndexOutOfBoundsException", Cond.initialized "java/lang/IndexOutOfBoundsException", Cond.fieldLink RX4 96 "PaperMachine" "changeHours" "I", Cond.methodLink RX4 101 Lib.Math.abs.name, Cond.static Lib.Math.abs.name, Cond.code Lib.Math.abs.name Lib.Math.abs.code 1 (some .int), Cond.methodLink RX4 86 yX4_isGrade, Cond.instanceMethod yX4_isGrade, Cond.selects RX4 yX4_isGrade yX4_isGrade, Cond.code yX4_isGrade cX4_isGrade 2 (some .boolean), Cond.methodLink RL 105 yX5_change]
def wsL_law0_r8 : List Cond := [Cond.instanceMethod yX5_change, Cond.selects RX5 yX5_change yX5_change, Cond.code yX5_change cX5_change 3 (some .int), Cond.fieldLink RX5 81 "PaperMachineModel" "changing" "I", Cond.methodLink RX5 78 yX5_isGrade, Cond.instanceMethod yX5_isGrade, Cond.selects RX5 yX5_isGrade yX5_isGrade, Cond.code yX5_isGrade cX5_isGrade 2 (some .boolean), Cond.methodLink RL 106 yL_grade, Cond.static yL_grade, Cond.codeWith yL_grade cL_grade 3 (some .int) [(0, 8, 11, 29)], Cond.classLink RL 29 "java/util/NoSuchElementException", Cond.methodLink RL 25 yX4_grade, Cond.instanceMethod yX4_grade, Cond.selects RX4 yX4_grade yX4_grade, Cond.code yX4_grade cX4_grade 1 (some .int), Cond.classLink RX4 107 "java/util/NoSuchElementException", Cond.initialized "java/util/NoSuchElementException", Cond.methodLink RL 109 yX5_grade, Cond.instanceMethod yX5_grade, Cond.selects RX5 yX5_grade yX5_grade, Cond.code yX5_grade cX5_grade 1 (some .int), Cond.methodLink RL 110 yX4_changing, Cond.instanceMethod yX4_changing]
def wsL_law0_r9 : List Cond := [Cond.selects RX4 yX4_changing yX4_changing, Cond.code yX4_changing cX4_changing 1 (some .int), Cond.methodLink RL 113 yX5_changing, Cond.instanceMethod yX5_changing, Cond.selects RX5 yX5_changing yX5_changing, Cond.code yX5_changing cX5_changing 1 (some .int), Cond.methodLink RL 114 yL_next, Cond.static yL_next, Cond.codeWith yL_next cL_next 3 (some .int) [(0, 8, 11, 29)], Cond.methodLink RL 31 yX4_next, Cond.instanceMethod yX4_next, Cond.selects RX4 yX4_next yX4_next, Cond.code yX4_next cX4_next 2 (some .int), Cond.methodLink RX4 112 yX4_nearestWaiting, Cond.instanceMethod yX4_nearestWaiting, Cond.selects RX4 yX4_nearestWaiting yX4_nearestWaiting, Cond.code yX4_nearestWaiting cX4_nearestWaiting 8 (some .int), Cond.methodLink RX4 174 yX3_rollsLacking, Cond.instanceMethod yX3_rollsLacking, Cond.selects RX3 yX3_rollsLacking yX3_rollsLacking, Cond.code yX3_rollsLacking cX3_rollsLacking 4 (some .int), Cond.methodLink RL 116 yX5_next, Cond.instanceMethod yX5_next, Cond.selects RX5 yX5_next yX5_next]
def wsL_law0_r10 : List Cond := [Cond.code yX5_next cX5_next 2 (some .int), Cond.methodLink RX5 87 yX5_nextFrom, Cond.instanceMethod yX5_nextFrom, Cond.selects RX5 yX5_nextFrom yX5_nextFrom, Cond.code yX5_nextFrom cX5_nextFrom 7 (some .int), Cond.methodLink RX5 84 yX5_hasOrders, Cond.instanceMethod yX5_hasOrders, Cond.selects RX5 yX5_hasOrders yX5_hasOrders, Cond.code yX5_hasOrders cX5_hasOrders 4 (some .boolean), Cond.methodLink RL 117 yL_mass, Cond.static yL_mass, Cond.codeWith yL_mass cL_mass 4 (some .int) [(0, 9, 12, 23)], Cond.methodLink RL 34 yX4_mass, Cond.instanceMethod yX4_mass, Cond.selects RX4 yX4_mass yX4_mass, Cond.code yX4_mass cX4_mass 2 (some .int), Cond.methodLink RX4 118 yX4_massOfAnHour, Cond.instanceMethod yX4_massOfAnHour, Cond.selects RX4 yX4_massOfAnHour yX4_massOfAnHour, Cond.code yX4_massOfAnHour cX4_massOfAnHour 2 (some .int), Cond.methodLink RL 119 yX5_mass, Cond.instanceMethod yX5_mass, Cond.selects RX5 yX5_mass yX5_mass, Cond.code yX5_mass cX5_mass 2 (some .int)]
def wsL_law0_r11 : List Cond := [Cond.methodLink RX5 91 yX5_massOf, Cond.instanceMethod yX5_massOf, Cond.selects RX5 yX5_massOf yX5_massOf, Cond.code yX5_massOf cX5_massOf 2 (some .int), Cond.methodLink RL 120 yL_order, Cond.static yL_order, Cond.codeWith yL_order cL_order 6 (some .int) [(0, 12, 15, 23), (0, 12, 19, 13), (0, 12, 23, 41), (0, 12, 27, 15)], Cond.classLink RL 41 "java/lang/UnsupportedOperationException", Cond.methodLink RL 37 yX4_order, Cond.instanceMethod yX4_order, Cond.selects RX4 yX4_order yX4_order, Cond.code yX4_order cX4_order 4 (some .int), Cond.classLink RX4 123 "java/lang/UnsupportedOperationException", Cond.initialized "java/lang/UnsupportedOperationException", Cond.methodLink RX4 128 yX3_isFull, Cond.instanceMethod yX3_isFull, Cond.selects RX3 yX3_isFull yX3_isFull, Cond.code yX3_isFull cX3_isFull 1 (some .boolean), Cond.methodLink RX4 134 yX3_write, Cond.instanceMethod yX3_write, Cond.selects RX3 yX3_write yX3_write, Cond.code yX3_write cX3_write 5 (some .int), Cond.methodLink RX3 28 yX3_isFull, Cond.methodLink RL 123 yX5_order]
def wsL_law0_r12 : List Cond := [Cond.instanceMethod yX5_order, Cond.selects RX5 yX5_order yX5_order, Cond.code yX5_order cX5_order 5 (some .int), Cond.methodLink RL 124 yL_cancel, Cond.static yL_cancel, Cond.codeWith yL_cancel cL_cancel 4 (some .int) [(0, 9, 12, 23), (0, 9, 15, 15)], Cond.methodLink RL 43 yX4_cancel, Cond.instanceMethod yX4_cancel, Cond.selects RX4 yX4_cancel yX4_cancel, Cond.code yX4_cancel cX4_cancel 3 (some .int), Cond.fieldLink RX4 143 "PaperMachine$OrderBook" "lacking" "[I", Cond.methodLink RX4 138 yX3_has, Cond.instanceMethod yX3_has, Cond.selects RX3 yX3_has yX3_has, Cond.code yX3_has cX3_has 2 (some .boolean), Cond.methodLink RL 126 yX5_cancel, Cond.instanceMethod yX5_cancel, Cond.selects RX5 yX5_cancel yX5_cancel, Cond.code yX5_cancel cX5_cancel 3 (some .int), Cond.methodLink RX5 95 yX5_isOrder, Cond.instanceMethod yX5_isOrder, Cond.selects RX5 yX5_isOrder yX5_isOrder, Cond.code yX5_isOrder cX5_isOrder 2 (some .boolean), Cond.methodLink RL 127 yL_cut]
def wsL_law0_r13 : List Cond := [Cond.static yL_cut, Cond.codeWith yL_cut cL_cut 4 (some .int) [(0, 9, 12, 23)], Cond.methodLink RL 46 yX4_cut, Cond.instanceMethod yX4_cut, Cond.selects RX4 yX4_cut yX4_cut, Cond.code yX4_cut cX4_cut 2 (some .int), Cond.fieldLink RX4 148 "PaperMachine$OrderBook" "rollsCut" "[I", Cond.methodLink RL 129 yX5_cut, Cond.instanceMethod yX5_cut, Cond.selects RX5 yX5_cut yX5_cut, Cond.code yX5_cut cX5_cut 2 (some .int), Cond.methodLink RL 130 yL_lacks, Cond.static yL_lacks, Cond.codeWith yL_lacks cL_lacks 4 (some .int) [(0, 9, 12, 23)], Cond.methodLink RL 49 yX4_lacks, Cond.instanceMethod yX4_lacks, Cond.selects RX4 yX4_lacks yX4_lacks, Cond.code yX4_lacks cX4_lacks 2 (some .int), Cond.methodLink RL 132 yX5_lacks, Cond.instanceMethod yX5_lacks, Cond.selects RX5 yX5_lacks yX5_lacks, Cond.code yX5_lacks cX5_lacks 2 (some .int), Cond.methodLink RL 133 yL_trim, Cond.static yL_trim]
def wsL_law0_r14 : List Cond := [Cond.codeWith yL_trim cL_trim 4 (some .int) [(0, 9, 12, 23)], Cond.methodLink RL 52 yX4_trim, Cond.instanceMethod yX4_trim, Cond.selects RX4 yX4_trim yX4_trim, Cond.code yX4_trim cX4_trim 2 (some .int), Cond.methodLink RX4 151 yX1_load, Cond.instanceMethod yX1_load, Cond.selects RX1 yX1_load yX1_load, Cond.code yX1_load cX1_load 7 none, Cond.methodLink RX1 30 Lib.Math.min.name, Cond.static Lib.Math.min.name, Cond.code Lib.Math.min.name Lib.Math.min.code 2 (some .int), Cond.methodLink RX1 36 Lib.Math.max.name, Cond.fieldLink RX1 39 "PaperMachine$Cutter" "room" "I", Cond.fieldLink RX1 49 "PaperMachine$OrderBook" "grades" "[I", Cond.fieldLink RX1 52 "PaperMachine$OrderBook" "widths" "[I", Cond.fieldLink RX1 53 "PaperMachine$OrderBook" "lacking" "[I", Cond.methodLink RX1 43 yX3_has, Cond.methodLink RX4 155 yX1_sumBySearch, Cond.instanceMethod yX1_sumBySearch, Cond.selects RX1 yX1_sumBySearch yX1_sumBySearch, Cond.code yX1_sumBySearch cX1_sumBySearch 1 (some .int), Cond.fieldLink RX1 56 "PaperMachine$Cutter" "bestSum" "I", Cond.methodLink RX1 59 yJ7_fill_53178]
def wsL_law0_r15 : List Cond := [Cond.static yJ7_fill_53178, Cond.initialized RJ7, Cond.code yJ7_fill_53178 cJ7_fill_53178 4 none, Cond.methodLink RX1 65 yX1_search, Cond.static yX1_search, Cond.code yX1_search cX1_search 7 none, Cond.methodLink RX1 69 yX1_keepIfGreater, Cond.instanceMethod yX1_keepIfGreater, Cond.selects RX1 yX1_keepIfGreater yX1_keepIfGreater, Cond.code yX1_keepIfGreater cX1_keepIfGreater 2 none, Cond.methodLink RX1 73 arraycopyName, Cond.native arraycopyName, Cond.static arraycopyName, Cond.initialized "java/lang/System", Cond.methodLink RL 135 yX5_trim, Cond.instanceMethod yX5_trim, Cond.selects RX5 yX5_trim yX5_trim, Cond.code yX5_trim cX5_trim 2 (some .int), Cond.methodLink RX5 105 yX5_looks, Cond.instanceMethod yX5_looks, Cond.selects RX5 yX5_looks yX5_looks, Cond.code yX5_looks cX5_looks 2 (some .int), Cond.fieldLink RX5 98 "PaperMachineModel" "best" "I", Cond.methodLink RX5 101 yX5_tries]
def wsL_law0_r16 : List Cond := [Cond.instanceMethod yX5_tries, Cond.selects RX5 yX5_tries yX5_tries, Cond.code yX5_tries cX5_tries 7 none, Cond.methodLink RL 136 yL_trimByTable, Cond.static yL_trimByTable, Cond.codeWith yL_trimByTable cL_trimByTable 4 (some .int) [(0, 9, 12, 23)], Cond.methodLink RL 55 yX4_trimByTable, Cond.instanceMethod yX4_trimByTable, Cond.selects RX4 yX4_trimByTable yX4_trimByTable, Cond.code yX4_trimByTable cX4_trimByTable 2 (some .int), Cond.methodLink RX4 158 yX1_sumByTable, Cond.instanceMethod yX1_sumByTable, Cond.selects RX1 yX1_sumByTable yX1_sumByTable, Cond.code yX1_sumByTable cX1_sumByTable 3 (some .int), Cond.methodLink RX1 79 yX1_addRollToTable, Cond.instanceMethod yX1_addRollToTable, Cond.selects RX1 yX1_addRollToTable yX1_addRollToTable, Cond.code yX1_addRollToTable cX1_addRollToTable 3 none, Cond.methodLink RL 138 yX5_trimByTable, Cond.instanceMethod yX5_trimByTable, Cond.selects RX5 yX5_trimByTable yX5_trimByTable, Cond.code yX5_trimByTable cX5_trimByTable 2 (some .int), Cond.methodLink RX5 108 yX5_trim, Cond.methodLink RL 139 yL_inCut]
def wsL_law0_r17 : List Cond := [Cond.static yL_inCut, Cond.codeWith yL_inCut cL_inCut 4 (some .int) [(0, 9, 12, 23)], Cond.methodLink RL 58 yX4_inCut, Cond.instanceMethod yX4_inCut, Cond.selects RX4 yX4_inCut yX4_inCut, Cond.code yX4_inCut cX4_inCut 2 (some .int), Cond.fieldLink RX4 161 "PaperMachine$OrderBook" "grades" "[I", Cond.fieldLink RX4 164 "PaperMachine$Cutter" "best" "[I", Cond.methodLink RL 141 yX5_inCut, Cond.instanceMethod yX5_inCut, Cond.selects RX5 yX5_inCut yX5_inCut, Cond.code yX5_inCut cX5_inCut 3 (some .int), Cond.methodLink RL 142 yL_leastHours, Cond.static yL_leastHours, Cond.codeWith yL_leastHours cL_leastHours 4 (some .int) [(0, 9, 12, 23)], Cond.methodLink RL 61 yX4_leastHours, Cond.instanceMethod yX4_leastHours, Cond.selects RX4 yX4_leastHours yX4_leastHours, Cond.code yX4_leastHours cX4_leastHours 4 (some .int), Cond.methodLink RX4 177 Lib.Math.max.name, Cond.methodLink RX4 167 yX3_widthLacking, Cond.instanceMethod yX3_widthLacking, Cond.selects RX3 yX3_widthLacking yX3_widthLacking, Cond.code yX3_widthLacking cX3_widthLacking 4 (some .int)]
def wsL_law0_r18 : List Cond := [Cond.methodLink RX4 170 yX4_quotientUp, Cond.static yX4_quotientUp, Cond.code yX4_quotientUp cX4_quotientUp 2 (some .int), Cond.methodLink RL 144 yX5_leastHours, Cond.instanceMethod yX5_leastHours, Cond.selects RX5 yX5_leastHours yX5_leastHours, Cond.code yX5_leastHours cX5_leastHours 6 (some .int), Cond.methodLink RL 145 yL_setShare, Cond.static yL_setShare, Cond.codeWith yL_setShare cL_setShare 4 (some .int) [(0, 9, 12, 13)], Cond.methodLink RL 64 yX4_setShare, Cond.instanceMethod yX4_setShare, Cond.selects RX4 yX4_setShare yX4_setShare, Cond.code yX4_setShare cX4_setShare 3 (some .int), Cond.methodLink RL 147 yX5_setShare, Cond.instanceMethod yX5_setShare, Cond.selects RX5 yX5_setShare yX5_setShare, Cond.code yX5_setShare cX5_setShare 3 (some .int), Cond.methodLink RL 148 yL_setContract, Cond.static yL_setContract, Cond.codeWith yL_setContract cL_setContract 6 (some .int) [(0, 12, 15, 13)], Cond.methodLink RL 67 yX4_setContract, Cond.instanceMethod yX4_setContract, Cond.selects RX4 yX4_setContract yX4_setContract]
def wsL_law0_r19 : List Cond := [Cond.code yX4_setContract cX4_setContract 5 (some .int), Cond.fieldLink RX4 184 "PaperMachine$Contract" "limit" "I", Cond.fieldLink RX4 187 "PaperMachine$Contract" "firstPrice" "I", Cond.fieldLink RX4 190 "PaperMachine$Contract" "secondPrice" "I", Cond.methodLink RL 150 yX5_setContract, Cond.instanceMethod yX5_setContract, Cond.selects RX5 yX5_setContract yX5_setContract, Cond.code yX5_setContract cX5_setContract 5 (some .int), Cond.methodLink RL 151 yL_pass, Cond.static yL_pass, Cond.codeWith yL_pass cL_pass 4 (some .int) [(0, 9, 12, 13), (0, 9, 15, 15)], Cond.methodLink RL 70 yX4_pass, Cond.instanceMethod yX4_pass, Cond.selects RX4 yX4_pass yX4_pass, Cond.code yX4_pass cX4_pass 4 (some .int), Cond.fieldLink RX4 195 "PaperMachine$HourBook" "count" "I", Cond.methodLink RX4 200 yX4_passAnHour, Cond.instanceMethod yX4_passAnHour, Cond.selects RX4 yX4_passAnHour yX4_passAnHour, Cond.code yX4_passAnHour cX4_passAnHour 4 (some .int), Cond.methodLink RX4 245 yX2_writeNothing, Cond.instanceMethod yX2_writeNothing, Cond.selects RX2 yX2_writeNothing yX2_writeNothing, Cond.code yX2_writeNothing cX2_writeNothing 1 none]
def wsL_law0_r20 : List Cond := [Cond.methodLink RX2 29 yX2_writeMade, Cond.instanceMethod yX2_writeMade, Cond.selects RX2 yX2_writeMade yX2_writeMade, Cond.code yX2_writeMade cX2_writeMade 5 none, Cond.fieldLink RX2 25 "PaperMachine$HourBook" "count" "I", Cond.fieldLink RX2 33 "PaperMachine$HourBook" "freshSum" "J", Cond.fieldLink RX2 37 "PaperMachine$HourBook" "paperSum" "J", Cond.fieldLink RX2 40 "PaperMachine$HourBook" "lossSum" "J", Cond.methodLink RX4 248 yX4_make, Cond.instanceMethod yX4_make, Cond.selects RX4 yX4_make yX4_make, Cond.code yX4_make cX4_make 7 none, Cond.fieldLink RX4 203 "PaperMachine" "brokeKept" "I", Cond.methodLink RX4 263 Lib.Math.min.name, Cond.fieldLink RX4 229 "PaperMachine$HourBook" "massSum" "J", Cond.fieldLink RX4 226 "PaperMachine" "steamSum" "J", Cond.methodLink RX4 266 yX2_writeMade, Cond.methodLink RX4 270 yX0_cost, Cond.instanceMethod yX0_cost, Cond.selects RX0 yX0_cost yX0_cost, Cond.code yX0_cost cX0_cost 3 (some .long), Cond.methodLink RX0 19 Lib.Math.min.name, Cond.methodLink RX4 252 yX4_quotient, Cond.static yX4_quotient]
def wsL_law0_r21 : List Cond := [Cond.code yX4_quotient cX4_quotient 2 (some .int), Cond.methodLink RX4 255 yX2_writeTrim, Cond.instanceMethod yX2_writeTrim, Cond.selects RX2 yX2_writeTrim yX2_writeTrim, Cond.code yX2_writeTrim cX2_writeTrim 2 none, Cond.fieldLink RX2 43 "PaperMachine$HourBook" "trimSum" "J", Cond.fieldLink RX2 46 "PaperMachine$HourBook" "paperHours" "I", Cond.methodLink RX4 259 yX3_takeOff, Cond.instanceMethod yX3_takeOff, Cond.selects RX3 yX3_takeOff yX3_takeOff, Cond.code yX3_takeOff cX3_takeOff 4 (some .int), Cond.methodLink RL 153 yX5_pass, Cond.instanceMethod yX5_pass, Cond.selects RX5 yX5_pass yX5_pass, Cond.code yX5_pass cX5_pass 4 (some .int), Cond.fieldLink RX5 130 "PaperMachineModel" "hours" "I", Cond.methodLink RX5 147 yX5_passesOne, Cond.instanceMethod yX5_passesOne, Cond.selects RX5 yX5_passesOne yX5_passesOne, Cond.code yX5_passesOne cX5_passesOne 2 (some .int), Cond.methodLink RX5 139 yX5_makes, Cond.instanceMethod yX5_makes, Cond.selects RX5 yX5_makes yX5_makes, Cond.code yX5_makes cX5_makes 7 none]
def wsL_law0_r22 : List Cond := [Cond.fieldLink RX5 111 "PaperMachineModel" "broke" "I", Cond.fieldLink RX5 114 "PaperMachineModel" "fresh" "J", Cond.fieldLink RX5 118 "PaperMachineModel" "paper" "J", Cond.fieldLink RX5 121 "PaperMachineModel" "lost" "J", Cond.fieldLink RX5 124 "PaperMachineModel" "mass" "J", Cond.fieldLink RX5 127 "PaperMachineModel" "steam" "J", Cond.methodLink RX5 143 yX5_cuts, Cond.instanceMethod yX5_cuts, Cond.selects RX5 yX5_cuts yX5_cuts, Cond.code yX5_cuts cX5_cuts 4 (some .int), Cond.fieldLink RX5 133 "PaperMachineModel" "paperHours" "I", Cond.fieldLink RX5 136 "PaperMachineModel" "trims" "I", Cond.methodLink RL 154 yX4_hours, Cond.instanceMethod yX4_hours, Cond.selects RX4 yX4_hours yX4_hours, Cond.code yX4_hours cX4_hours 1 (some .int), Cond.methodLink RL 157 yX5_hours, Cond.instanceMethod yX5_hours, Cond.selects RX5 yX5_hours yX5_hours, Cond.code yX5_hours cX5_hours 1 (some .int), Cond.methodLink RL 158 yX4_broke, Cond.instanceMethod yX4_broke, Cond.selects RX4 yX4_broke yX4_broke, Cond.code yX4_broke cX4_broke 1 (some .int)]
def wsL_law0_r23 : List Cond := [Cond.methodLink RL 161 yX5_broke, Cond.instanceMethod yX5_broke, Cond.selects RX5 yX5_broke yX5_broke, Cond.code yX5_broke cX5_broke 1 (some .int), Cond.methodLink RL 162 yX4_brokeByHours, Cond.instanceMethod yX4_brokeByHours, Cond.selects RX4 yX4_brokeByHours yX4_brokeByHours, Cond.code yX4_brokeByHours cX4_brokeByHours 1 (some .int), Cond.methodLink RX4 206 yX2_fibreStillThere, Cond.instanceMethod yX2_fibreStillThere, Cond.selects RX2 yX2_fibreStillThere yX2_fibreStillThere, Cond.code yX2_fibreStillThere cX2_fibreStillThere 3 (some .int), Cond.methodLink RL 165 yX5_brokeByHours, Cond.instanceMethod yX5_brokeByHours, Cond.selects RX5 yX5_brokeByHours yX5_brokeByHours, Cond.code yX5_brokeByHours cX5_brokeByHours 1 (some .int), Cond.methodLink RL 166 yX4_fresh, Cond.instanceMethod yX4_fresh, Cond.selects RX4 yX4_fresh yX4_fresh, Cond.code yX4_fresh cX4_fresh 1 (some .long), Cond.fieldLink RX4 209 "PaperMachine$HourBook" "freshSum" "J", Cond.methodLink RL 170 yX5_fresh, Cond.instanceMethod yX5_fresh, Cond.selects RX5 yX5_fresh yX5_fresh]
def wsL_law0_r24 : List Cond := [Cond.code yX5_fresh cX5_fresh 1 (some .long), Cond.methodLink RL 171 yX4_paper, Cond.instanceMethod yX4_paper, Cond.selects RX4 yX4_paper yX4_paper, Cond.code yX4_paper cX4_paper 1 (some .long), Cond.fieldLink RX4 213 "PaperMachine$HourBook" "paperSum" "J", Cond.methodLink RL 174 yX5_paper, Cond.instanceMethod yX5_paper, Cond.selects RX5 yX5_paper yX5_paper, Cond.code yX5_paper cX5_paper 1 (some .long), Cond.methodLink RL 175 yX4_lost, Cond.instanceMethod yX4_lost, Cond.selects RX4 yX4_lost yX4_lost, Cond.code yX4_lost cX4_lost 1 (some .long), Cond.fieldLink RX4 216 "PaperMachine$HourBook" "lossSum" "J", Cond.methodLink RL 178 yX5_lost, Cond.instanceMethod yX5_lost, Cond.selects RX5 yX5_lost yX5_lost, Cond.code yX5_lost cX5_lost 1 (some .long), Cond.methodLink RL 179 yL_made, Cond.static yL_made, Cond.codeWith yL_made cL_made 4 (some .int) [(0, 9, 12, 23)], Cond.methodLink RL 73 yX4_made, Cond.instanceMethod yX4_made]
def wsL_law0_r25 : List Cond := [Cond.selects RX4 yX4_made yX4_made, Cond.code yX4_made cX4_made 2 (some .char), Cond.fieldLink RX4 222 "PaperMachine$HourBook" "kinds" "[C", Cond.methodLink RX4 219 yX2_has, Cond.instanceMethod yX2_has, Cond.selects RX2 yX2_has yX2_has, Cond.code yX2_has cX2_has 2 (some .boolean), Cond.methodLink RL 181 yX5_made, Cond.instanceMethod yX5_made, Cond.selects RX5 yX5_made yX5_made, Cond.code yX5_made cX5_made 2 (some .char), Cond.methodLink RL 182 yX4_steamCost, Cond.instanceMethod yX4_steamCost, Cond.selects RX4 yX4_steamCost yX4_steamCost, Cond.code yX4_steamCost cX4_steamCost 1 (some .long), Cond.methodLink RL 185 yX5_steamCost, Cond.instanceMethod yX5_steamCost, Cond.selects RX5 yX5_steamCost yX5_steamCost, Cond.code yX5_steamCost cX5_steamCost 1 (some .long), Cond.methodLink RL 186 yL_paperShare, Cond.static yL_paperShare, Cond.codeWith yL_paperShare cL_paperShare 3 (some .int) [(0, 8, 11, 81)], Cond.classLink RL 81 "java/lang/ArithmeticException", Cond.methodLink RL 77 yX4_paperShare]
def wsL_law0_r26 : List Cond := [Cond.instanceMethod yX4_paperShare, Cond.selects RX4 yX4_paperShare yX4_paperShare, Cond.code yX4_paperShare cX4_paperShare 1 (some .float), Cond.classLink RX4 232 "java/lang/ArithmeticException", Cond.initialized "java/lang/ArithmeticException", Cond.methodLink RL 189 yX5_paperShare, Cond.instanceMethod yX5_paperShare, Cond.selects RX5 yX5_paperShare yX5_paperShare, Cond.code yX5_paperShare cX5_paperShare 1 (some .float), Cond.methodLink RL 190 yL_meanTrim, Cond.static yL_meanTrim, Cond.codeWith yL_meanTrim cL_meanTrim 3 (some .int) [(0, 7, 10, 81)], Cond.methodLink RL 83 yX4_meanTrim, Cond.instanceMethod yX4_meanTrim, Cond.selects RX4 yX4_meanTrim yX4_meanTrim, Cond.code yX4_meanTrim cX4_meanTrim 1 (some .double), Cond.fieldLink RX4 237 "PaperMachine$HourBook" "paperHours" "I", Cond.fieldLink RX4 242 "PaperMachine$HourBook" "trimSum" "J", Cond.methodLink RL 192 yX5_meanTrim, Cond.instanceMethod yX5_meanTrim, Cond.selects RX5 yX5_meanTrim yX5_meanTrim, Cond.code yX5_meanTrim cX5_meanTrim 1 (some .double)]
def wsL_law0 : List Cond := (wsL_law0_r1 ++ (wsL_law0_r2 ++ (wsL_law0_r3 ++ (wsL_law0_r4 ++ (wsL_law0_r5 ++ (wsL_law0_r6 ++ (wsL_law0_r7 ++ (wsL_law0_r8 ++ (wsL_law0_r9 ++ (wsL_law0_r10 ++ (wsL_law0_r11 ++ (wsL_law0_r12 ++ (wsL_law0_r13 ++ (wsL_law0_r14 ++ (wsL_law0_r15 ++ (wsL_law0_r16 ++ (wsL_law0_r17 ++ (wsL_law0_r18 ++ (wsL_law0_r19 ++ (wsL_law0_r20 ++ (wsL_law0_r21 ++ (wsL_law0_r22 ++ (wsL_law0_r23 ++ (wsL_law0_r24 ++ (wsL_law0_r25 ++ wsL_law0_r26))))))))))))))))))))))))) ++ wsX40 ++ wsX50 ++ wsX30 ++ wsX10 ++ wsX00 ++ wsX20 ++ ([] : List Cond)
def wsL_law : List Cond := wsL_law0 ++ (vx_atM "java/lang/ArrayIndexOutOfBoundsException" ["java/lang/IndexOutOfBoundsException", "java/lang/RuntimeException", "java/lang/Exception"]).filter goodWord ++ (vx_atS RX4 67 "java/lang/IllegalArgumentException" ["java/lang/RuntimeException", "java/lang/Exception"]).filter goodWord ++ (vx_atS RX4 77 "java/lang/IllegalStateException" ["java/lang/RuntimeException", "java/lang/Exception"]).filter goodWord ++ (vx_atS RX4 93 "java/lang/IndexOutOfBoundsException" ["java/lang/RuntimeException", "java/lang/Exception"]).filter goodWord ++ (nx_atS RX4 111 "java/util/NoSuchElementException" ["java/lang/RuntimeException", "java/lang/Exception"]).filter goodWord ++ (vx_atS RX4 127 "java/lang/UnsupportedOperationException" ["java/lang/RuntimeException", "java/lang/Exception"]).filter goodWord ++ (vx_atM "java/lang/ArithmeticException" ["java/lang/RuntimeException", "java/lang/Exception"]).filter goodWord ++ (vx_atS RX4 236 "java/lang/ArithmeticException" ["java/lang/RuntimeException", "java/lang/Exception"]).filter goodWord
end
section
theorem sub_r {big : List Cond} (ws : List Cond) (ps : List Nat) (hp : ps.map (fun i => big[i]?) = ws.map some) : ∀ w ∈ ws, w ∈ big := by
  intro w hw
  have h1 : some w ∈ ps.map (fun i => big[i]?) := by rw [hp]; exact List.mem_map.mpr ⟨w, hw, rfl⟩
  obtain ⟨i, -, hi⟩ := List.mem_map.mp h1
  exact List.mem_of_getElem? hi
set_option maxRecDepth 100000 in
theorem wsL_law_in_r1 : ∀ w ∈ wsL_law0_r1, w ∈ lw_tbl := sub_r _ [42, 43, 22, 713, 714, 27, 975, 976, 44, 45, 46, 47, 48, 49, 78, 178, 180, 181, 183, 50, 51, 23, 184, 79] rfl
set_option maxRecDepth 100000 in
theorem wsL_law_in_r2 : ∀ w ∈ wsL_law0_r2, w ∈ lw_tbl := sub_r _ [80, 24, 185, 111, 112, 25, 186, 130, 131, 26, 187, 188, 53, 54, 55, 56, 59, 61, 63, 82, 83, 84, 85, 87] rfl
set_option maxRecDepth 100000 in
theorem wsL_law_in_r3 : ∀ w ∈ wsL_law0_r3, w ∈ lw_tbl := sub_r _ [88, 89, 90, 91, 114, 115, 116, 117, 119, 121, 133, 134, 135, 177, 136, 138, 139, 140, 715, 716, 717, 718, 721, 722] rfl
set_option maxRecDepth 100000 in
theorem wsL_law_in_r4 : ∀ w ∈ wsL_law0_r4, w ∈ lw_tbl := sub_r _ [723, 724, 727, 728, 729, 730, 731, 732, 733, 734, 736, 746, 747, 254, 255, 21, 256, 257, 258, 259, 260, 261, 262, 270] rfl
set_option maxRecDepth 100000 in
theorem wsL_law_in_r5 : ∀ w ∈ wsL_law0_r5, w ∈ lw_tbl := sub_r _ [31, 342, 32, 179, 263, 264, 265, 266, 268, 0, 269, 811, 812, 813, 814, 720, 815, 816, 817, 818, 820, 9, 821, 822] rfl
set_option maxRecDepth 100000 in
theorem wsL_law_in_r6 : ∀ w ∈ wsL_law0_r6, w ∈ lw_tbl := sub_r _ [824, 10, 825, 719, 807, 808, 809, 810, 358, 359, 360, 361, 362, 363, 364, 366, 367, 368, 369, 66, 370, 371, 33, 372] rfl
set_option maxRecDepth 100000 in
theorem wsL_law_in_r7 : ∀ w ∈ wsL_law0_r7, w ∈ lw_tbl := sub_r _ [826, 827, 828, 829, 726, 374, 375, 376, 377, 401, 402, 403, 404, 409, 34, 182, 424, 425, 426, 405, 407, 2, 408, 830] rfl
set_option maxRecDepth 100000 in
theorem wsL_law_in_r8 : ∀ w ∈ wsL_law0_r8, w ∈ lw_tbl := sub_r _ [831, 832, 833, 725, 834, 836, 11, 837, 427, 428, 429, 430, 431, 432, 433, 434, 435, 37, 838, 839, 840, 841, 218, 219] rfl
set_option maxRecDepth 100000 in
theorem wsL_law_in_r9 : ∀ w ∈ wsL_law0_r9, w ∈ lw_tbl := sub_r _ [220, 221, 842, 843, 844, 845, 451, 452, 453, 454, 455, 456, 457, 458, 460, 3, 461, 462, 463, 464, 465, 846, 847, 848] rfl
set_option maxRecDepth 100000 in
theorem wsL_law_in_r10 : ∀ w ∈ wsL_law0_r10, w ∈ lw_tbl := sub_r _ [849, 850, 852, 12, 853, 854, 856, 13, 857, 467, 468, 469, 470, 471, 472, 473, 474, 476, 4, 477, 858, 859, 860, 861] rfl
set_option maxRecDepth 100000 in
theorem wsL_law_in_r11 : ∀ w ∈ wsL_law0_r11, w ∈ lw_tbl := sub_r _ [862, 864, 14, 865, 478, 479, 480, 481, 482, 483, 484, 485, 487, 38, 503, 504, 505, 506, 508, 509, 510, 511, 512, 866] rfl
set_option maxRecDepth 100000 in
theorem wsL_law_in_r12 : ∀ w ∈ wsL_law0_r12, w ∈ lw_tbl := sub_r _ [867, 868, 869, 513, 514, 515, 516, 517, 518, 519, 65, 520, 521, 522, 523, 870, 871, 872, 873, 874, 876, 15, 877, 526] rfl
set_option maxRecDepth 100000 in
theorem wsL_law_in_r13 : ∀ w ∈ wsL_law0_r13, w ∈ lw_tbl := sub_r _ [527, 528, 529, 530, 531, 532, 62, 878, 879, 880, 881, 533, 534, 535, 536, 537, 538, 539, 882, 883, 884, 885, 540, 541] rfl
set_option maxRecDepth 100000 in
theorem wsL_law_in_r14 : ∀ w ∈ wsL_law0_r14, w ∈ lw_tbl := sub_r _ [542, 543, 544, 545, 546, 547, 548, 549, 550, 551, 552, 553, 554, 92, 57, 60, 64, 555, 556, 557, 558, 559, 93, 560] rfl
set_option maxRecDepth 100000 in
theorem wsL_law_in_r15 : ∀ w ∈ wsL_law0_r15, w ∈ lw_tbl := sub_r _ [561, 39, 562, 563, 564, 565, 566, 568, 5, 569, 570, 572, 571, 40, 886, 887, 888, 889, 890, 892, 16, 893, 745, 894] rfl
set_option maxRecDepth 100000 in
theorem wsL_law_in_r16 : ∀ w ∈ wsL_law0_r16, w ∈ lw_tbl := sub_r _ [896, 17, 897, 573, 574, 575, 576, 577, 578, 579, 580, 581, 582, 583, 584, 586, 6, 587, 898, 899, 900, 901, 902, 588] rfl
set_option maxRecDepth 100000 in
theorem wsL_law_in_r17 : ∀ w ∈ wsL_law0_r17, w ∈ lw_tbl := sub_r _ [589, 590, 591, 592, 593, 594, 58, 86, 903, 904, 905, 906, 595, 596, 597, 598, 599, 600, 601, 609, 602, 603, 604, 605] rfl
set_option maxRecDepth 100000 in
theorem wsL_law_in_r18 : ∀ w ∈ wsL_law0_r18, w ∈ lw_tbl := sub_r _ [606, 607, 608, 907, 908, 909, 910, 610, 611, 612, 613, 614, 615, 616, 911, 912, 913, 914, 618, 619, 620, 621, 622, 623] rfl
set_option maxRecDepth 100000 in
theorem wsL_law_in_r19 : ∀ w ∈ wsL_law0_r19, w ∈ lw_tbl := sub_r _ [624, 118, 120, 122, 915, 916, 917, 918, 626, 627, 628, 629, 630, 631, 632, 142, 635, 637, 7, 638, 639, 640, 641, 642] rfl
set_option maxRecDepth 100000 in
theorem wsL_law_in_r20 : ∀ w ∈ wsL_law0_r20, w ∈ lw_tbl := sub_r _ [643, 644, 645, 646, 141, 143, 145, 147, 647, 649, 8, 650, 189, 651, 149, 190, 652, 653, 654, 655, 656, 657, 658, 659] rfl
set_option maxRecDepth 100000 in
theorem wsL_law_in_r21 : ∀ w ∈ wsL_law0_r21, w ∈ lw_tbl := sub_r _ [660, 661, 662, 663, 664, 150, 152, 665, 666, 667, 668, 919, 920, 921, 922, 735, 923, 925, 18, 926, 927, 929, 19, 930] rfl
set_option maxRecDepth 100000 in
theorem wsL_law_in_r22 : ∀ w ∈ wsL_law0_r22, w ∈ lw_tbl := sub_r _ [737, 738, 739, 740, 742, 741, 931, 933, 20, 934, 743, 744, 222, 223, 224, 225, 935, 936, 937, 938, 226, 227, 228, 229] rfl
set_option maxRecDepth 100000 in
theorem wsL_law_in_r23 : ∀ w ∈ wsL_law0_r23, w ∈ lw_tbl := sub_r _ [939, 940, 941, 942, 230, 231, 232, 233, 234, 235, 236, 237, 943, 944, 945, 946, 238, 239, 240, 241, 144, 947, 948, 949] rfl
set_option maxRecDepth 100000 in
theorem wsL_law_in_r24 : ∀ w ∈ wsL_law0_r24, w ∈ lw_tbl := sub_r _ [950, 242, 243, 244, 245, 146, 951, 952, 953, 954, 246, 247, 248, 249, 148, 955, 956, 957, 958, 669, 670, 671, 672, 673] rfl
set_option maxRecDepth 100000 in
theorem wsL_law_in_r25 : ∀ w ∈ wsL_law0_r25, w ∈ lw_tbl := sub_r _ [674, 675, 137, 676, 677, 678, 679, 959, 960, 961, 962, 250, 251, 252, 253, 963, 964, 965, 966, 681, 682, 683, 684, 698] rfl
set_option maxRecDepth 100000 in
theorem wsL_law_in_r26 : ∀ w ∈ wsL_law0_r26, w ∈ lw_tbl := sub_r _ [699, 700, 701, 702, 41, 967, 968, 969, 970, 705, 706, 707, 708, 709, 710, 711, 153, 151, 971, 972, 973, 974] rfl
set_option maxRecDepth 100000 in
theorem wsL_law_in_wsX40 : ∀ w ∈ wsX40, w ∈ lw_tbl := sub_r _ [191, 193, 195, 197, 199, 201, 203, 205, 207, 209, 211, 213, 215] rfl
set_option maxRecDepth 100000 in
theorem wsL_law_in_wsX50 : ∀ w ∈ wsX50, w ∈ lw_tbl := sub_r _ [748, 750, 752, 754, 756, 758, 760, 762, 764, 766, 768, 770, 772, 774, 776, 778, 780, 782, 784, 786, 788, 790, 792, 794, 796, 798, 800, 802, 804] rfl
set_option maxRecDepth 100000 in
theorem wsL_law_in_wsX30 : ∀ w ∈ wsX30, w ∈ lw_tbl := sub_r _ [67, 69, 71, 73, 75] rfl
set_option maxRecDepth 100000 in
theorem wsL_law_in_wsX10 : ∀ w ∈ wsX10, w ∈ lw_tbl := sub_r _ [94, 96, 98, 100, 102, 104, 106, 108] rfl
set_option maxRecDepth 100000 in
theorem wsL_law_in_wsX00 : ∀ w ∈ wsX00, w ∈ lw_tbl := sub_r _ [123, 125, 127] rfl
set_option maxRecDepth 100000 in
theorem wsL_law_in_wsX20 : ∀ w ∈ wsX20, w ∈ lw_tbl := sub_r _ [154, 156, 158, 160, 162, 164, 166, 168, 170, 172, 174] rfl
theorem wsL_law_in0 : ∀ w ∈ wsL_law0, w ∈ lw_tbl := fun w => (fun h => (List.mem_append.mp h).elim ((fun h => (List.mem_append.mp h).elim ((fun h => (List.mem_append.mp h).elim ((fun h => (List.mem_append.mp h).elim ((fun h => (List.mem_append.mp h).elim ((fun h => (List.mem_append.mp h).elim ((fun h => (List.mem_append.mp h).elim ((fun h => (List.mem_append.mp h).elim (wsL_law_in_r1 w) ((fun h => (List.mem_append.mp h).elim (wsL_law_in_r2 w) ((fun h => (List.mem_append.mp h).elim (wsL_law_in_r3 w) ((fun h => (List.mem_append.mp h).elim (wsL_law_in_r4 w) ((fun h => (List.mem_append.mp h).elim (wsL_law_in_r5 w) ((fun h => (List.mem_append.mp h).elim (wsL_law_in_r6 w) ((fun h => (List.mem_append.mp h).elim (wsL_law_in_r7 w) ((fun h => (List.mem_append.mp h).elim (wsL_law_in_r8 w) ((fun h => (List.mem_append.mp h).elim (wsL_law_in_r9 w) ((fun h => (List.mem_append.mp h).elim (wsL_law_in_r10 w) ((fun h => (List.mem_append.mp h).elim (wsL_law_in_r11 w) ((fun h => (List.mem_append.mp h).elim (wsL_law_in_r12 w) ((fun h => (List.mem_append.mp h).elim (wsL_law_in_r13 w) ((fun h => (List.mem_append.mp h).elim (wsL_law_in_r14 w) ((fun h => (List.mem_append.mp h).elim (wsL_law_in_r15 w) ((fun h => (List.mem_append.mp h).elim (wsL_law_in_r16 w) ((fun h => (List.mem_append.mp h).elim (wsL_law_in_r17 w) ((fun h => (List.mem_append.mp h).elim (wsL_law_in_r18 w) ((fun h => (List.mem_append.mp h).elim (wsL_law_in_r19 w) ((fun h => (List.mem_append.mp h).elim (wsL_law_in_r20 w) ((fun h => (List.mem_append.mp h).elim (wsL_law_in_r21 w) ((fun h => (List.mem_append.mp h).elim (wsL_law_in_r22 w) ((fun h => (List.mem_append.mp h).elim (wsL_law_in_r23 w) ((fun h => (List.mem_append.mp h).elim (wsL_law_in_r24 w) ((fun h => (List.mem_append.mp h).elim (wsL_law_in_r25 w) (wsL_law_in_r26 w))))))))))))))))))))))))))))))))))))))))))))))))))) (wsL_law_in_wsX40 w))) (wsL_law_in_wsX50 w))) (wsL_law_in_wsX30 w))) (wsL_law_in_wsX10 w))) (wsL_law_in_wsX00 w))) (wsL_law_in_wsX20 w))) (fun h => absurd h List.not_mem_nil))
end
section
theorem wsL_law_x0 : ∀ w ∈ (vx_atM "java/lang/ArrayIndexOutOfBoundsException" ["java/lang/IndexOutOfBoundsException", "java/lang/RuntimeException", "java/lang/Exception"]).filter goodWord, w ∈ lw_tbl := by decide +kernel
theorem wsL_law_x1 : ∀ w ∈ (vx_atS RX4 67 "java/lang/IllegalArgumentException" ["java/lang/RuntimeException", "java/lang/Exception"]).filter goodWord, w ∈ lw_tbl := by decide +kernel
theorem wsL_law_x2 : ∀ w ∈ (vx_atS RX4 77 "java/lang/IllegalStateException" ["java/lang/RuntimeException", "java/lang/Exception"]).filter goodWord, w ∈ lw_tbl := by decide +kernel
theorem wsL_law_x3 : ∀ w ∈ (vx_atS RX4 93 "java/lang/IndexOutOfBoundsException" ["java/lang/RuntimeException", "java/lang/Exception"]).filter goodWord, w ∈ lw_tbl := by decide +kernel
end
section
theorem wsL_law_x4 : ∀ w ∈ (nx_atS RX4 111 "java/util/NoSuchElementException" ["java/lang/RuntimeException", "java/lang/Exception"]).filter goodWord, w ∈ lw_tbl := by decide +kernel
theorem wsL_law_x5 : ∀ w ∈ (vx_atS RX4 127 "java/lang/UnsupportedOperationException" ["java/lang/RuntimeException", "java/lang/Exception"]).filter goodWord, w ∈ lw_tbl := by decide +kernel
theorem wsL_law_x6 : ∀ w ∈ (vx_atM "java/lang/ArithmeticException" ["java/lang/RuntimeException", "java/lang/Exception"]).filter goodWord, w ∈ lw_tbl := by decide +kernel
theorem wsL_law_x7 : ∀ w ∈ (vx_atS RX4 236 "java/lang/ArithmeticException" ["java/lang/RuntimeException", "java/lang/Exception"]).filter goodWord, w ∈ lw_tbl := by decide +kernel
end
section
theorem wsL_law_in : ∀ w ∈ wsL_law, w ∈ lw_tbl := fun w h => (List.mem_append.mp h).elim (fun h => (List.mem_append.mp h).elim (fun h => (List.mem_append.mp h).elim (fun h => (List.mem_append.mp h).elim (fun h => (List.mem_append.mp h).elim (fun h => (List.mem_append.mp h).elim (fun h => (List.mem_append.mp h).elim (fun h => (List.mem_append.mp h).elim (fun h => wsL_law_in0 w h) (fun h => wsL_law_x0 w h)) (fun h => wsL_law_x1 w h)) (fun h => wsL_law_x2 w h)) (fun h => wsL_law_x3 w h)) (fun h => wsL_law_x4 w h)) (fun h => wsL_law_x5 w h)) (fun h => wsL_law_x6 w h)) (fun h => wsL_law_x7 w h)
theorem inlX0 : ∀ w ∈ wsX00, w ∈ wsL_law := fun _ h => List.mem_append_left _ (List.mem_append_left _ (List.mem_append_left _ (List.mem_append_left _ (List.mem_append_left _ (List.mem_append_left _ (List.mem_append_left _ (List.mem_append_left _ (List.mem_append_left _ (List.mem_append_left _ (List.mem_append_right _ h))))))))))
theorem inX0 : ∀ w ∈ wsX00, w ∈ lw_tbl := fun w h => wsL_law_in w (inlX0 w h)
theorem inlX1 : ∀ w ∈ wsX10, w ∈ wsL_law := fun _ h => List.mem_append_left _ (List.mem_append_left _ (List.mem_append_left _ (List.mem_append_left _ (List.mem_append_left _ (List.mem_append_left _ (List.mem_append_left _ (List.mem_append_left _ (List.mem_append_left _ (List.mem_append_left _ (List.mem_append_left _ (List.mem_append_right _ h)))))))))))
theorem inX1 : ∀ w ∈ wsX10, w ∈ lw_tbl := fun w h => wsL_law_in w (inlX1 w h)
theorem inlX2 : ∀ w ∈ wsX20, w ∈ wsL_law := fun _ h => List.mem_append_left _ (List.mem_append_left _ (List.mem_append_left _ (List.mem_append_left _ (List.mem_append_left _ (List.mem_append_left _ (List.mem_append_left _ (List.mem_append_left _ (List.mem_append_left _ (List.mem_append_right _ h)))))))))
theorem inX2 : ∀ w ∈ wsX20, w ∈ lw_tbl := fun w h => wsL_law_in w (inlX2 w h)
theorem inlX3 : ∀ w ∈ wsX30, w ∈ wsL_law := fun _ h => List.mem_append_left _ (List.mem_append_left _ (List.mem_append_left _ (List.mem_append_left _ (List.mem_append_left _ (List.mem_append_left _ (List.mem_append_left _ (List.mem_append_left _ (List.mem_append_left _ (List.mem_append_left _ (List.mem_append_left _ (List.mem_append_left _ (List.mem_append_right _ h))))))))))))
theorem inX3 : ∀ w ∈ wsX30, w ∈ lw_tbl := fun w h => wsL_law_in w (inlX3 w h)
theorem inlX4 : ∀ w ∈ wsX40, w ∈ wsL_law := fun _ h => List.mem_append_left _ (List.mem_append_left _ (List.mem_append_left _ (List.mem_append_left _ (List.mem_append_left _ (List.mem_append_left _ (List.mem_append_left _ (List.mem_append_left _ (List.mem_append_left _ (List.mem_append_left _ (List.mem_append_left _ (List.mem_append_left _ (List.mem_append_left _ (List.mem_append_left _ (List.mem_append_right _ h))))))))))))))
theorem inX4 : ∀ w ∈ wsX40, w ∈ lw_tbl := fun w h => wsL_law_in w (inlX4 w h)
theorem inlX5 : ∀ w ∈ wsX50, w ∈ wsL_law := fun _ h => List.mem_append_left _ (List.mem_append_left _ (List.mem_append_left _ (List.mem_append_left _ (List.mem_append_left _ (List.mem_append_left _ (List.mem_append_left _ (List.mem_append_left _ (List.mem_append_left _ (List.mem_append_left _ (List.mem_append_left _ (List.mem_append_left _ (List.mem_append_left _ (List.mem_append_right _ h)))))))))))))
theorem inX5 : ∀ w ∈ wsX50, w ∈ lw_tbl := fun w h => wsL_law_in w (inlX5 w h)
theorem inJx145de : ∀ w ∈ wsJx145de0, w ∈ lw_tbl := by decide +kernel
theorem inJx00060 : ∀ w ∈ wsJx000600, w ∈ lw_tbl := by decide +kernel
theorem inJ9 : ∀ w ∈ wsJ90, w ∈ lw_tbl := by decide +kernel
theorem inJ0 : ∀ w ∈ wsJ00, w ∈ lw_tbl := by decide +kernel
theorem inJ10 : ∀ w ∈ wsJ100, w ∈ lw_tbl := by decide +kernel
theorem inJ7 : ∀ w ∈ wsJ70, w ∈ lw_tbl := by decide +kernel
end
