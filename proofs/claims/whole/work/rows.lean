section
-- ===== PART A: goes FIRST, ahead of the names: the tables' words, and 'selects' of the private methods out of them =====
/-- a private method of a class that the tables say can be made, by its rows of tables_1 -/
def lw_okq (q : MethodName × Nat) : Prop := (q.1.cls ≠ "java/lang/invoke/MethodHandle" ∧ q.1.cls ≠ "java/lang/invoke/VarHandle") ∧ Cond.instantiable q.1.cls q.2 ∈ tables_1 ∧ Cond.privateMethod q.1 ∈ tables_1 ∧ Cond.instanceMethod q.1 ∈ tables_1
theorem lw_p0 : lw_okq (⟨"PaperMachine", "isWeightTaken", "(I)Z"⟩, 13) := ⟨⟨by decide +kernel, by decide +kernel⟩, List.mem_of_getElem? (i := 22) (by decide +kernel), List.mem_of_getElem? (i := 246) (by decide +kernel), List.mem_of_getElem? (i := 247) (by decide +kernel)⟩
theorem lw_p1 : lw_okq (⟨"java/lang/Throwable", "fillInStackTrace", "(I)Ljava/lang/Throwable;"⟩, 6) := ⟨⟨by decide +kernel, by decide +kernel⟩, List.mem_of_getElem? (i := 292) (by decide +kernel), List.mem_of_getElem? (i := 290) (by decide +kernel), List.mem_of_getElem? (i := 291) (by decide +kernel)⟩
theorem lw_p2 : lw_okq (⟨"PaperMachine", "isGrade", "(I)Z"⟩, 13) := ⟨⟨by decide +kernel, by decide +kernel⟩, List.mem_of_getElem? (i := 22) (by decide +kernel), List.mem_of_getElem? (i := 385) (by decide +kernel), List.mem_of_getElem? (i := 386) (by decide +kernel)⟩
theorem lw_p3 : lw_okq (⟨"PaperMachine", "nearestWaiting", "(IZ)I"⟩, 13) := ⟨⟨by decide +kernel, by decide +kernel⟩, List.mem_of_getElem? (i := 22) (by decide +kernel), List.mem_of_getElem? (i := 438) (by decide +kernel), List.mem_of_getElem? (i := 439) (by decide +kernel)⟩
theorem lw_p4 : lw_okq (⟨"PaperMachine", "massOfAnHour", "(I)I"⟩, 13) := ⟨⟨by decide +kernel, by decide +kernel⟩, List.mem_of_getElem? (i := 22) (by decide +kernel), List.mem_of_getElem? (i := 454) (by decide +kernel), List.mem_of_getElem? (i := 455) (by decide +kernel)⟩
theorem lw_p5 : lw_okq (⟨"PaperMachine$Cutter", "keepIfGreater", "(I)V"⟩, 8) := ⟨⟨by decide +kernel, by decide +kernel⟩, List.mem_of_getElem? (i := 59) (by decide +kernel), List.mem_of_getElem? (i := 546) (by decide +kernel), List.mem_of_getElem? (i := 547) (by decide +kernel)⟩
theorem lw_p6 : lw_okq (⟨"PaperMachine$Cutter", "addRollToTable", "(I)V"⟩, 8) := ⟨⟨by decide +kernel, by decide +kernel⟩, List.mem_of_getElem? (i := 59) (by decide +kernel), List.mem_of_getElem? (i := 564) (by decide +kernel), List.mem_of_getElem? (i := 565) (by decide +kernel)⟩
theorem lw_p7 : lw_okq (⟨"PaperMachine", "passAnHour", "()I"⟩, 13) := ⟨⟨by decide +kernel, by decide +kernel⟩, List.mem_of_getElem? (i := 22) (by decide +kernel), List.mem_of_getElem? (i := 615) (by decide +kernel), List.mem_of_getElem? (i := 616) (by decide +kernel)⟩
theorem lw_p8 : lw_okq (⟨"PaperMachine", "make", "(CII)V"⟩, 13) := ⟨⟨by decide +kernel, by decide +kernel⟩, List.mem_of_getElem? (i := 22) (by decide +kernel), List.mem_of_getElem? (i := 627) (by decide +kernel), List.mem_of_getElem? (i := 628) (by decide +kernel)⟩
theorem lw_p9 : lw_okq (⟨"PaperMachineModel", "hasWeight", "(I)Z"⟩, 29) := ⟨⟨by decide +kernel, by decide +kernel⟩, List.mem_of_getElem? (i := 693) (by decide +kernel), List.mem_of_getElem? (i := 798) (by decide +kernel), List.mem_of_getElem? (i := 799) (by decide +kernel)⟩
theorem lw_p10 : lw_okq (⟨"PaperMachineModel", "goesOn", "(I)Z"⟩, 29) := ⟨⟨by decide +kernel, by decide +kernel⟩, List.mem_of_getElem? (i := 693) (by decide +kernel), List.mem_of_getElem? (i := 802) (by decide +kernel), List.mem_of_getElem? (i := 803) (by decide +kernel)⟩
theorem lw_p11 : lw_okq (⟨"PaperMachineModel", "isGrade", "(I)Z"⟩, 29) := ⟨⟨by decide +kernel, by decide +kernel⟩, List.mem_of_getElem? (i := 693) (by decide +kernel), List.mem_of_getElem? (i := 814) (by decide +kernel), List.mem_of_getElem? (i := 815) (by decide +kernel)⟩
theorem lw_p12 : lw_okq (⟨"PaperMachineModel", "nextFrom", "(IZ)I"⟩, 29) := ⟨⟨by decide +kernel, by decide +kernel⟩, List.mem_of_getElem? (i := 693) (by decide +kernel), List.mem_of_getElem? (i := 830) (by decide +kernel), List.mem_of_getElem? (i := 831) (by decide +kernel)⟩
theorem lw_p13 : lw_okq (⟨"PaperMachineModel", "hasOrders", "(I)Z"⟩, 29) := ⟨⟨by decide +kernel, by decide +kernel⟩, List.mem_of_getElem? (i := 693) (by decide +kernel), List.mem_of_getElem? (i := 834) (by decide +kernel), List.mem_of_getElem? (i := 835) (by decide +kernel)⟩
theorem lw_p14 : lw_okq (⟨"PaperMachineModel", "massOf", "(I)I"⟩, 29) := ⟨⟨by decide +kernel, by decide +kernel⟩, List.mem_of_getElem? (i := 693) (by decide +kernel), List.mem_of_getElem? (i := 842) (by decide +kernel), List.mem_of_getElem? (i := 843) (by decide +kernel)⟩
theorem lw_p15 : lw_okq (⟨"PaperMachineModel", "isOrder", "(I)Z"⟩, 29) := ⟨⟨by decide +kernel, by decide +kernel⟩, List.mem_of_getElem? (i := 693) (by decide +kernel), List.mem_of_getElem? (i := 854) (by decide +kernel), List.mem_of_getElem? (i := 855) (by decide +kernel)⟩
def lw_privs_1 : List (MethodName × Nat) := [(⟨"PaperMachine", "isWeightTaken", "(I)Z"⟩, 13), (⟨"java/lang/Throwable", "fillInStackTrace", "(I)Ljava/lang/Throwable;"⟩, 6), (⟨"PaperMachine", "isGrade", "(I)Z"⟩, 13), (⟨"PaperMachine", "nearestWaiting", "(IZ)I"⟩, 13), (⟨"PaperMachine", "massOfAnHour", "(I)I"⟩, 13), (⟨"PaperMachine$Cutter", "keepIfGreater", "(I)V"⟩, 8), (⟨"PaperMachine$Cutter", "addRollToTable", "(I)V"⟩, 8), (⟨"PaperMachine", "passAnHour", "()I"⟩, 13), (⟨"PaperMachine", "make", "(CII)V"⟩, 13), (⟨"PaperMachineModel", "hasWeight", "(I)Z"⟩, 29), (⟨"PaperMachineModel", "goesOn", "(I)Z"⟩, 29), (⟨"PaperMachineModel", "isGrade", "(I)Z"⟩, 29), (⟨"PaperMachineModel", "nextFrom", "(IZ)I"⟩, 29), (⟨"PaperMachineModel", "hasOrders", "(I)Z"⟩, 29), (⟨"PaperMachineModel", "massOf", "(I)I"⟩, 29), (⟨"PaperMachineModel", "isOrder", "(I)Z"⟩, 29)]
theorem lw_r1 : ∀ q ∈ lw_privs_1, lw_okq q := List.forall_mem_cons.mpr ⟨lw_p0, List.forall_mem_cons.mpr ⟨lw_p1, List.forall_mem_cons.mpr ⟨lw_p2, List.forall_mem_cons.mpr ⟨lw_p3, List.forall_mem_cons.mpr ⟨lw_p4, List.forall_mem_cons.mpr ⟨lw_p5, List.forall_mem_cons.mpr ⟨lw_p6, List.forall_mem_cons.mpr ⟨lw_p7, List.forall_mem_cons.mpr ⟨lw_p8, List.forall_mem_cons.mpr ⟨lw_p9, List.forall_mem_cons.mpr ⟨lw_p10, List.forall_mem_cons.mpr ⟨lw_p11, List.forall_mem_cons.mpr ⟨lw_p12, List.forall_mem_cons.mpr ⟨lw_p13, List.forall_mem_cons.mpr ⟨lw_p14, List.forall_mem_cons.mpr ⟨lw_p15, fun _ h => absurd h List.not_mem_nil⟩⟩⟩⟩⟩⟩⟩⟩⟩⟩⟩⟩⟩⟩⟩⟩
theorem lw_p16 : lw_okq (⟨"PaperMachineModel", "looks", "(I)I"⟩, 29) := ⟨⟨by decide +kernel, by decide +kernel⟩, List.mem_of_getElem? (i := 693) (by decide +kernel), List.mem_of_getElem? (i := 870) (by decide +kernel), List.mem_of_getElem? (i := 871) (by decide +kernel)⟩
theorem lw_p17 : lw_okq (⟨"PaperMachineModel", "tries", "(IIII)V"⟩, 29) := ⟨⟨by decide +kernel, by decide +kernel⟩, List.mem_of_getElem? (i := 693) (by decide +kernel), List.mem_of_getElem? (i := 874) (by decide +kernel), List.mem_of_getElem? (i := 875) (by decide +kernel)⟩
theorem lw_p18 : lw_okq (⟨"PaperMachineModel", "passesOne", "()I"⟩, 29) := ⟨⟨by decide +kernel, by decide +kernel⟩, List.mem_of_getElem? (i := 693) (by decide +kernel), List.mem_of_getElem? (i := 903) (by decide +kernel), List.mem_of_getElem? (i := 904) (by decide +kernel)⟩
theorem lw_p19 : lw_okq (⟨"PaperMachineModel", "makes", "(II)V"⟩, 29) := ⟨⟨by decide +kernel, by decide +kernel⟩, List.mem_of_getElem? (i := 693) (by decide +kernel), List.mem_of_getElem? (i := 907) (by decide +kernel), List.mem_of_getElem? (i := 908) (by decide +kernel)⟩
theorem lw_p20 : lw_okq (⟨"PaperMachineModel", "cuts", "()I"⟩, 29) := ⟨⟨by decide +kernel, by decide +kernel⟩, List.mem_of_getElem? (i := 693) (by decide +kernel), List.mem_of_getElem? (i := 911) (by decide +kernel), List.mem_of_getElem? (i := 912) (by decide +kernel)⟩
def lw_privs_2 : List (MethodName × Nat) := [(⟨"PaperMachineModel", "looks", "(I)I"⟩, 29), (⟨"PaperMachineModel", "tries", "(IIII)V"⟩, 29), (⟨"PaperMachineModel", "passesOne", "()I"⟩, 29), (⟨"PaperMachineModel", "makes", "(II)V"⟩, 29), (⟨"PaperMachineModel", "cuts", "()I"⟩, 29)]
theorem lw_r2 : ∀ q ∈ lw_privs_2, lw_okq q := List.forall_mem_cons.mpr ⟨lw_p16, List.forall_mem_cons.mpr ⟨lw_p17, List.forall_mem_cons.mpr ⟨lw_p18, List.forall_mem_cons.mpr ⟨lw_p19, List.forall_mem_cons.mpr ⟨lw_p20, fun _ h => absurd h List.not_mem_nil⟩⟩⟩⟩⟩
def lw_privs : List (MethodName × Nat) := lw_privs_1 ++ (lw_privs_2)
def lw_tbl : List Cond := k2_sels lw_privs ++ tables_1
theorem lw_privs_ok : ∀ q ∈ lw_privs, lw_okq q := by
  show ∀ q ∈ lw_privs_1 ++ (lw_privs_2), lw_okq q
  exact List.forall_mem_append.mpr ⟨lw_r1, lw_r2⟩
/-- the streams that the claim lets the run draw from -/
abbrev lw_cs : List Choice := [Jvm.Choice.named "NaN.bits"]
theorem lw_bits : nanBits ∈ lw_cs := by first | decide | exact List.mem_cons_self | simp [lw_cs, nanBits]
end
section
/-! ===== BEGIN words of one list among another's, by their places ===== -/
theorem goodIn_r {big : List Cond} (ws : List Cond) (ps : List Nat) (hp : ws = ps.filterMap (fun i => big[i]?)) (h : ws.all goodWord = true) : GoodIn big ws := by
  intro w hw
  have h1 := List.all_eq_true.mp h w hw
  rw [hp] at hw
  obtain ⟨i, -, hi⟩ := List.mem_filterMap.mp hw
  have hm : w ∈ big := by first | exact List.mem_of_getElem? hi | exact List.getElem?_mem hi
  exact ⟨hm, good_of_word h1⟩
theorem goodIn_app {big a b : List Cond} (ha : GoodIn big a) (hb : GoodIn big b) : GoodIn big (a ++ b) := fun w h => (List.mem_append.mp h).elim (ha w) (hb w)
theorem goodIn_ca {big a b : List Cond} {c : Cond} (ha : GoodIn big (c :: a)) (hb : GoodIn big b) : GoodIn big (c :: (a ++ b)) := fun w h => (List.mem_cons.mp h).elim (fun e => ha w (List.mem_cons.mpr (Or.inl e))) (fun h => (List.mem_append.mp h).elim (fun h => ha w (List.mem_cons.mpr (Or.inr h))) (hb w))
theorem goodIn_sub {big ws : List Cond} (hm : ∀ w ∈ ws, w ∈ big) (h : ws.all goodWord = true) : GoodIn big ws := fun w hw => ⟨hm w hw, good_of_word (List.all_eq_true.mp h w hw)⟩
/-! ===== END ===== -/

/-! ===== BEGIN exceptions that leave a method, and their catching by the caller (launches without stack traces) ===== -/
section VXA
/-! The laws vx_back, vx_callV, vx_callS, vx_callSW, vx_throw0, vx_throwS follow proofs of the library, with one case more: JvmDerived/Free/Laws.lean (Back.of_free), Shelf42/LK1.lean (callV, callS), Shelf/KitTraced.lean (throwNew0V, throwNewS). -/
/-- where a method has thrown q: the class by its name, the cell, what was written, the world -/
def vx_T (XC : String → State → State → Prop) (st : State) (q : Addr) (t : State) (mc ms : Nat) (free : Addr → Prop) : Prop :=
  ∃ (E : String) (ce : Cell) (L : List Loc), XC E st t ∧ t.heap[q]? = some ce ∧ ce.vm = .none ∧ st.vm.findClass E = some ce.cls ∧ st.WarmedH t.vm ∧ st.sameButNew ({ t with vm := st.vm } : State) L mc ms ∧ ∀ z ∈ L, free z.base
def vx_Q (Qc : Array Value → State → Outcome → State → Prop) (XC : String → State → State → Prop) (mc ms : Nat) (free : Addr → Prop) : Array Value → State → Outcome → State → Prop := fun a st o t =>
  (Qc a st o t ∧ ∃ L, FrameEnd st o t L mc ms ∧ ∀ q ∈ L, free q.base) ∨ ∃ q, o = .threw q ∧ vx_T XC st q t mc ms free
/-- a callee that returns or throws -/
def vx_Met (l : Launch) (y : MethodName) (ws : List Cond) (rm : Room) (Pc : Array Value → State → Prop) (Qc : Array Value → State → Outcome → State → Prop) (XC : String → State → State → Prop) (mc ms : Nat) (free : Addr → Prop) : Prop :=
  MetFree l y (headSpec ws rm) Pc (fun _ _ _ _ _ => True) (vx_Q Qc XC mc ms free)
def vx_Post (XC : String → State → State → Prop) (mc ms : Nat) (free : Addr → Prop) : Pt → Array Value → Addr → Pt → Prop := fun A a q B =>
  ∃ (g : JFrame) (mk : MethodId) (t : State) (L : List Loc) (E : String) (ce : Cell), B.U.heap = t.heap ∧ B.U.vm = t.vm ∧ XC E (A.U.calling g mk a) t ∧ t.heap[q]? = some ce ∧ ce.vm = .none ∧ A.U.vm.findClass E = some ce.cls ∧ B.locs = A.locs ++ L ∧ (∀ z ∈ L, free z.base) ∧ B.cells = A.cells + mc ∧ B.slots = A.slots + ms
def vx_Back (l : Launch) (R : Room) (p : Program) (e : Env) (below : List Frame) (s : State) (sargs : Array Value) (y : MethodName) (len W9 : Nat)
    (Pre : Pt → Array Value → Prop) (Post : Pt → Array Value → Option Value → Pt → Prop) (PostX : Pt → Array Value → Addr → Pt → Prop) : Prop :=
  ∀ (m : MethodId) (meth : Method) (c : Code) (A : Pt) (g : JFrame) (ig : Instr) (mk : MethodId) (a : Array Value),
    Stand p l e R s m sargs below meth c A.U A.locs A.cells A.slots → g.method = m → g.locals.size = c.maxLocals → decode c.code g.pc = .ok (ig, len) →
    2 * g.monitorRoom + (g.stack.map fun v => v.category).sum ≤ W9 → A.U.methodNamed? y = some mk → Pre A a →
    (∃ (v : Option Value) (B : Pt), Stand p l e R s m sargs below meth c B.U B.locs B.cells B.slots ∧ Post A a v B ∧
      Steps p.tables e below (doInvoke e (A.U.setTop g) [] mk a).1 (B.U.setTop { g with pc := g.pc + len, stack := v.toList ++ g.stack })) ∨
    (∃ (q : Addr) (B : Pt), Stand p l e R s m sargs below meth c B.U B.locs B.cells B.slots ∧ PostX A a q B ∧
      Steps p.tables e below (doInvoke e (A.U.setTop g) [] mk a).1 ((B.U.setTop g).pushFrame (.throwing q)))
section Payer
variable {l : Launch} {R : Room} {p : Program} {e : Env} {below : List Frame} {s : State} {sargs : Array Value} {y : MethodName} {len W9 : Nat}
theorem vx_back {ws : List Cond} {rm : Room} {Pc : Array Value → State → Prop} {Qc : Array Value → State → Outcome → State → Prop} {XC : String → State → State → Prop} {mc ms : Nat} {free : Addr → Prop} {bytes : ByteArray} {maxL : Nat} {ret : Option FieldType}
    (hM : vx_Met l y ws rm Pc Qc XC mc ms free) (hblind : FrameBlind Pc) (hrc : rm.cells = mc) (hrs : rm.slots = ms)
    (hframes : rm.frames + 1 ≤ R.frames) (hlocals : W9 + (maxL + 11) + rm.locals ≤ R.locals)
    (hws : ∀ w ∈ ws, ∀ a' U, s.WarmedH U.vm → w.before a' U = true) (hcode : Cond.code y bytes maxL ret ∈ ws) (hinit : ∀ a' U, s.WarmedH U.vm → (Cond.initialized y.cls).before a' U = true) :
    vx_Back l R p e below s sargs y len W9 (PreOf R mc ms Pc) (PostOf Qc mc ms free) (vx_Post XC mc ms free) := by
  intro m meth c A g ig mk a X hg hsize hdg hW hn hp
  have h1 : (headSpec ws rm).pre.before a A.U = true := atoms_intro fun w hw => hws w hw _ _ X.warmed
  have h2 : (Cond.code y bytes maxL ret).before a A.U = true := hws _ hcode _ _ X.warmed
  have h3 : (Cond.initialized y.cls).before a A.U = true := hinit _ _ X.warmed
  have h4 : A.cells + (headSpec ws rm).room.cells ≤ R.cells := by rw [show (headSpec ws rm).room.cells = mc from hrc]; exact hp.1
  have h5 : A.slots + (headSpec ws rm).room.slots ≤ R.slots := by rw [show (headSpec ws rm).room.slots = ms from hrs]; exact hp.2.1
  have hPc : Pc a (A.U.calling g mk a) := hblind _ _ _ _ hp.2.2
  obtain ⟨U, Ls, c0, s0⟩ := A
  dsimp only [Pt.U, Pt.locs, Pt.cells, Pt.slots] at h1 h2 h3 h4 h5 X hn hPc ⊢
  obtain ⟨methY, cY, hmY, hcY, -, hlY, -, -, -, -⟩ := Cond.code_spec hn h2
  obtain ⟨kY, hkY, -⟩ := className_of_methodNamed hn
  have hinitY : kY.init = .initialized := Cond.initialized_spec (findClass_of_methodNamed hn) hkY h3
  have h : At U g.method c below := by rw [hg]; exact X.here
  have hlocals9 : W9 + (maxL + 11) + (headSpec ws rm).room.locals ≤ R.locals := hlocals
  have happ : (headSpec ws rm).appliesLoose y e.platform (U.calling g mk a) = true :=
    Spec.appliesLoose_calling (g := g) h hdg hn hkY hinitY
      (X.room_calling (g := g) (R' := (headSpec ws rm).room) hsize hmY hcY hframes (by rw [hlY]; omega) h4 h5) h1
  obtain ⟨mid, hmid⟩ := h.above
  have hfr : (U.setTop g).frames = (.java g :: mid) ++ below := by rw [State.frames_setTop' g h.top, hmid]; rfl
  obtain ⟨o, s₂, hsteps, -, hend, hq⟩ := Steps.callFree hM p X.admits X.cas X.clock (acts := []) hfr happ hPc trivial
  have hq' : vx_Q Qc XC mc ms free a (U.calling g mk a) o s₂ := hq
  rw [State.frames_setTop' g h.top] at hend
  obtain ⟨g₀, hg0⟩ := Option.isSome_iff_exists.mp h.top
  obtain ⟨r, hr⟩ := State.topJava?_eq_some.mp hg0
  have hr' : (({ U with heap := s₂.heap, slotsUsed := s₂.slotsUsed } : State).setVm s₂.vm).frames = .java g₀ :: r := hr
  rcases hq' with ⟨hqc, L, hfe, hL⟩ | ⟨q, rfl, E, ce, L, hx, hce, hcv, hcl, hW₂, hsm, hL⟩
  · obtain ⟨⟨v, rfl⟩, hW₂, e2, q2, q3, q4, q5, q6⟩ := id hfe
    have e3 : s₂ = ({ (U.calling g mk a).setFrames s₂.frames with heap := s₂.heap, slotsUsed := s₂.slotsUsed } : State).setVm s₂.vm := by
      have : s₂ = ({ s₂ with vm := (U.calling g mk a).vm } : State).setVm s₂.vm := rfl
      rw [e2] at this
      exact this
    obtain ⟨c₂, i₂, len₂, hc₂, hd₂, hf₂⟩ := hend
    have hW' : U.WarmedH s₂.vm := hW₂
    have hcc : c₂ = c := by
      have h1 : s₂.code? g.method = U.code? g.method := by
        rw [State.code?_eq, State.code?_eq, hW'.alike.method?]
      exact Option.some.inj (hc₂.symm.trans (h1.trans h.code))
    subst hcc
    have hlen : len₂ = len := by rw [hdg] at hd₂; cases hd₂; rfl
    subst hlen
    have hs₂ : s₂ = (({ U with heap := s₂.heap, slotsUsed := s₂.slotsUsed } : State).setVm s₂.vm).setTop { g with pc := g.pc + len₂, stack := v.toList ++ g.stack } := by
      refine e3.trans ?_
      rw [hf₂, State.calling_eq h.top, State.setFrames_setFrames, State.setTop_of_frames _ hr', hr]
      rfl
    have hsame : U.sameButNew ({ U with heap := s₂.heap, slotsUsed := s₂.slotsUsed } : State) L mc ms := by
      refine ⟨?_, q2, q3, q4, q5, q6⟩
      obtain ⟨t, ht, -⟩ := State.frames_cons hr
      show ({ U with heap := s₂.heap, slotsUsed := s₂.slotsUsed } : State) = { U.setFrames U.frames with heap := s₂.heap, slotsUsed := s₂.slotsUsed }
      rw [State.setFrames_self ht]
    subst hg
    refine Or.inl ⟨v, ⟨(({ U with heap := s₂.heap, slotsUsed := s₂.slotsUsed } : State).setVm s₂.vm), Ls ++ L, c0 + mc, s0 + ms⟩,
      ⟨X.admits, X.cas, X.clock, X.frames, X.room, X.hears, X.method, X.code, (X.here.setHeapUsed s₂.heap s₂.slotsUsed).setVm hW'.alike, X.tail, State.WarmedH.trans X.warmed hW', X.limits, X.bytes, X.same.trans (hsame.setVm s.vm)⟩,
      ⟨g, mk, s₂, L, rfl, rfl, hqc, rfl, hL, rfl, rfl⟩, ?_⟩
    show Steps p.tables e below _ ((({ U with heap := s₂.heap, slotsUsed := s₂.slotsUsed } : State).setVm s₂.vm).setTop { g with pc := g.pc + len₂, stack := v.toList ++ g.stack })
    rw [← hs₂]
    exact hsteps
  · obtain ⟨e2, q2, q3, q4, q5, q6⟩ := id hsm
    have e3 : s₂ = ({ (U.calling g mk a).setFrames s₂.frames with heap := s₂.heap, slotsUsed := s₂.slotsUsed } : State).setVm s₂.vm := by
      have : s₂ = ({ s₂ with vm := (U.calling g mk a).vm } : State).setVm s₂.vm := rfl
      rw [e2] at this
      exact this
    have hf₂ : s₂.frames = .throwing q :: .java g :: U.frames.tail := hend
    have hW' : U.WarmedH s₂.vm := hW₂
    have hs₂ : s₂ = ((({ U with heap := s₂.heap, slotsUsed := s₂.slotsUsed } : State).setVm s₂.vm).setTop g).pushFrame (.throwing q) := by
      refine e3.trans ?_
      rw [hf₂, State.calling_eq h.top, State.setFrames_setFrames, State.pushFrame, State.frames_setTop _ hr', State.setTop_of_frames _ hr', State.setFrames_setFrames, hr]
      rfl
    have hsame : U.sameButNew ({ U with heap := s₂.heap, slotsUsed := s₂.slotsUsed } : State) L mc ms := by
      refine ⟨?_, q2, q3, q4, q5, q6⟩
      obtain ⟨t, ht, -⟩ := State.frames_cons hr
      show ({ U with heap := s₂.heap, slotsUsed := s₂.slotsUsed } : State) = { U.setFrames U.frames with heap := s₂.heap, slotsUsed := s₂.slotsUsed }
      rw [State.setFrames_self ht]
    subst hg
    refine Or.inr ⟨q, ⟨(({ U with heap := s₂.heap, slotsUsed := s₂.slotsUsed } : State).setVm s₂.vm), Ls ++ L, c0 + mc, s0 + ms⟩,
      ⟨X.admits, X.cas, X.clock, X.frames, X.room, X.hears, X.method, X.code, (X.here.setHeapUsed s₂.heap s₂.slotsUsed).setVm hW'.alike, X.tail, State.WarmedH.trans X.warmed hW', X.limits, X.bytes, X.same.trans (hsame.setVm s.vm)⟩,
      ⟨g, mk, s₂, L, E, ce, rfl, rfl, hx, hce, hcv, hcl, rfl, hL, rfl, rfl⟩, ?_⟩
    show Steps p.tables e below _ (((({ U with heap := s₂.heap, slotsUsed := s₂.slotsUsed } : State).setVm s₂.vm).setTop g).pushFrame (.throwing q))
    rw [← hs₂]
    exact hsteps
end Payer
section Calls
variable {p : Program} {l : Launch} {e : Env} {R : Room} {s : State} {m : MethodId} {args : Array Value} {below : List Frame} {meth : Method} {c : Code} {T : State} {locs : List Loc} {cells slots : Nat}
theorem vx_callV (X : Stand p l e R s m args below meth c T locs cells slots) (hexec : p.tables.exec = Jvm.exec) {own C : String} {index : Nat} {y : MethodName} {bytes : ByteArray} {maxL : Nat} {ret : Option FieldType}
    (hown : s.vm.findClass own = some m.cls) (hlink : (Cond.methodLink own index y).before args s = true) (hinst : (Cond.instanceMethod y).before args s = true) (hsel : (Cond.selects C y y).before args s = true)
    (hcode : (Cond.code y bytes maxL ret).before args s = true) (hy : y.cls ≠ "java/lang/invoke/MethodHandle" ∧ y.cls ≠ "java/lang/invoke/VarHandle")
    {W9 : Nat} {Pre : Pt → Array Value → Prop} {Post : Pt → Array Value → Option Value → Pt → Prop} {PostX : Pt → Array Value → Addr → Pt → Prop} (hK : vx_Back l R p e below s args y 3 W9 Pre Post PostX)
    {b : Addr} {cellB : Cell} (hcell : T.heap[b]? = some cellB) (hobj : cellB.vm.isStatics = false) (hcls : s.vm.findClass C = some cellB.cls)
    {g : JFrame} (hg : g.method = m) (hsize : g.locals.size = c.maxLocals) {argsL rest : List Value} (hlen : ∀ sig, parseMethodDescriptor y.desc = some sig → argsL.length = sig.parameters.length)
    (hstack : g.stack = argsL.reverse ++ .ref b :: rest) (hW : 2 * g.monitorRoom + (rest.map fun v => v.category).sum ≤ W9) (hdg : decode c.code g.pc = .ok (.invokevirtual index, 3))
    (hpre : ∀ vm₁, s.WarmedH vm₁ → Pre ⟨T.setVm vm₁, locs, cells, slots⟩ (Value.ref b :: argsL).toArray) :
    (∃ (v : Option Value) (vm₁ : Vm) (B : Pt), s.WarmedH vm₁ ∧ Stand p l e R s m args below meth c B.U B.locs B.cells B.slots ∧ Post ⟨T.setVm vm₁, locs, cells, slots⟩ (Value.ref b :: argsL).toArray v B ∧
      ∀ target, Steps p.tables e below (B.U.setTop { g with pc := g.pc + 3, stack := v.toList ++ rest }) target → Steps p.tables e below (T.setTop g) target) ∨
    (∃ (q : Addr) (vm₁ : Vm) (B : Pt), s.WarmedH vm₁ ∧ Stand p l e R s m args below meth c B.U B.locs B.cells B.slots ∧ PostX ⟨T.setVm vm₁, locs, cells, slots⟩ (Value.ref b :: argsL).toArray q B ∧
      Steps p.tables e below (T.setTop g) ((B.U.setTop { g with stack := rest }).pushFrame (.throwing q))) := by
  obtain ⟨mk, methM, hnamed, hmethM, hstM, habM⟩ := Cond.instanceMethod_spec hinst
  obtain ⟨methM', cM, hmethM', -, -, -, -, -, -, hsigM⟩ := Cond.code_spec hnamed hcode
  cases hmethM.symm.trans hmethM'
  obtain ⟨c2, r2, m2, q1, q2, q3, q4, kP, hkP, hkPi⟩ := Cond.selects_spec hsel
  cases hcls.symm.trans q1
  cases (State.methodFound?_of_named hnamed hy).symm.trans q2
  cases hnamed.symm.trans q3
  have hselP : selectMethod e.platform s.vm cellB.cls mk = .method mk := by rw [Launch.admits_selectMethod X.admits]; exact q4
  obtain ⟨vm₁, X₁, hstep₁⟩ := X.invokevirtual hexec hown hlink hnamed hmethM hstM hkP hkPi hy (a := b) (cell := cellB) hcell
    (fun z h => by rw [h] at hobj; cases hobj) hselP hmethM habM hkP hkPi (g := g) hg (argsL := argsL) (rest := rest) (hlen _ hsigM) hstack hdg
  rcases hK m meth c ⟨T.setVm vm₁, locs, cells, slots⟩ { g with stack := rest } (.invokevirtual index) mk (Value.ref b :: argsL).toArray X₁ hg hsize hdg hW (X₁.named hnamed) (hpre vm₁ X₁.warmed) with ⟨v, B, X', hpost, hsteps⟩ | ⟨q, B, X', hpost, hsteps⟩
  · exact Or.inl ⟨v, vm₁, B, X₁.warmed, X', hpost, fun target h => hstep₁ _ fun acts => by rw [doInvoke_state]; exact hsteps.trans h⟩
  · exact Or.inr ⟨q, vm₁, B, X₁.warmed, X', hpost, hstep₁ _ fun acts => by rw [doInvoke_state]; exact hsteps⟩
theorem vx_callS (X : Stand p l e R s m args below meth c T locs cells slots) (hexec : p.tables.exec = Jvm.exec) {own : String} {index : Nat} {y : MethodName} {bytes : ByteArray} {maxL : Nat} {ret : Option FieldType}
    (hown : s.vm.findClass own = some m.cls) (hlink : (Cond.methodLink own index y).before args s = true) (hstat : (Cond.static y).before args s = true) (hinit : (Cond.initialized y.cls).before args s = true)
    (hcode : (Cond.code y bytes maxL ret).before args s = true) (hy : y.cls ≠ "java/lang/invoke/MethodHandle" ∧ y.cls ≠ "java/lang/invoke/VarHandle")
    {W9 : Nat} {Pre : Pt → Array Value → Prop} {Post : Pt → Array Value → Option Value → Pt → Prop} {PostX : Pt → Array Value → Addr → Pt → Prop} (hK : vx_Back l R p e below s args y 3 W9 Pre Post PostX)
    {g : JFrame} (hg : g.method = m) (hsize : g.locals.size = c.maxLocals) {argsL rest : List Value} (hlen : ∀ sig, parseMethodDescriptor y.desc = some sig → argsL.length = sig.parameters.length)
    (hstack : g.stack = argsL.reverse ++ rest) (hW : 2 * g.monitorRoom + (rest.map fun v => v.category).sum ≤ W9) (hdg : decode c.code g.pc = .ok (.invokestatic index, 3))
    (hpre : ∀ vm₁, s.WarmedH vm₁ → Pre ⟨T.setVm vm₁, locs, cells, slots⟩ argsL.toArray) :
    (∃ (v : Option Value) (vm₁ : Vm) (B : Pt), s.WarmedH vm₁ ∧ Stand p l e R s m args below meth c B.U B.locs B.cells B.slots ∧ Post ⟨T.setVm vm₁, locs, cells, slots⟩ argsL.toArray v B ∧
      ∀ target, Steps p.tables e below (B.U.setTop { g with pc := g.pc + 3, stack := v.toList ++ rest }) target → Steps p.tables e below (T.setTop g) target) ∨
    (∃ (q : Addr) (vm₁ : Vm) (B : Pt), s.WarmedH vm₁ ∧ Stand p l e R s m args below meth c B.U B.locs B.cells B.slots ∧ PostX ⟨T.setVm vm₁, locs, cells, slots⟩ argsL.toArray q B ∧
      Steps p.tables e below (T.setTop g) ((B.U.setTop { g with stack := rest }).pushFrame (.throwing q))) := by
  obtain ⟨mk, hnamed⟩ := Cond.code_named hcode
  obtain ⟨methM, cM, hmethM, -, -, -, -, -, -, hsigM⟩ := Cond.code_spec hnamed hcode
  have hstatic : methM.isStatic = true := Cond.static_spec hnamed hmethM hstat
  obtain ⟨kP, hkP, -⟩ := className_of_methodNamed hnamed
  have hinitP : kP.init = .initialized := Cond.initialized_spec (findClass_of_methodNamed hnamed) hkP hinit
  obtain ⟨vm₁, X₁, hstep₁⟩ := X.invokestatic hexec hown hlink hnamed hmethM hstatic hkP hinitP hy (g := g) hg (argsL := argsL) (rest := rest) (hlen _ hsigM) hstack hdg
  rcases hK m meth c ⟨T.setVm vm₁, locs, cells, slots⟩ { g with stack := rest } (.invokestatic index) mk argsL.toArray X₁ hg hsize hdg hW (X₁.named hnamed) (hpre vm₁ X₁.warmed) with ⟨v, B, X', hpost, hsteps⟩ | ⟨q, B, X', hpost, hsteps⟩
  · exact Or.inl ⟨v, vm₁, B, X₁.warmed, X', hpost, fun target h => hstep₁ _ fun acts => by rw [doInvoke_state]; exact hsteps.trans h⟩
  · exact Or.inr ⟨q, vm₁, B, X₁.warmed, X', hpost, hstep₁ _ fun acts => by rw [doInvoke_state]; exact hsteps⟩
end Calls
theorem vx_cls {s : State} {T : State} {vm₁ : Vm} {E : String} {k : ClassId} (hW : s.WarmedH vm₁) (h : (T.setVm vm₁).vm.findClass E = some k) : s.vm.findClass E = some k := by
  have h1 : vm₁.findClass E = some k := h
  rw [hW.alike.findClass] at h1
  exact h1
/-- the method's frame g, with q thrown over it -/
def vx_W (p : Program) (l : Launch) (e : Env) (R : Room) (s : State) (m : MethodId) (args : Array Value) (below : List Frame) (meth : Method) (c : Code) (H : Heap) (locs : List Loc) (cells slots : Nat) (Q : State → Prop) (g : JFrame) (q : Addr) : Prop :=
  ∀ T : State, T.heap = H → Stand p l e R s m args below meth c T locs cells slots → ∃ t, Steps p.tables e below ((T.setTop g).pushFrame (.throwing q)) t ∧ Q t
def vx_Run (p : Program) (l : Launch) (e : Env) (R : Room) (s : State) (m : MethodId) (args : Array Value) (below : List Frame) (meth : Method) (c : Code) (H : Heap) (locs : List Loc) (cells slots mc ms : Nat) (g : JFrame) (rest : List Value) (Qa : State → Outcome → State → Prop) (XC : String → State → State → Prop) (free : Addr → Prop) : Prop :=
  ∀ T : State, T.heap = H → Stand p l e R s m args below meth c T locs cells slots →
    (∃ (v : Option Value) (st₀ t T' : State) (L : List Loc), st₀.heap = H ∧ Stand p l e R s m args below meth c T' (locs ++ L) (cells + mc) (slots + ms) ∧ (∀ q ∈ L, free q.base) ∧ T'.heap = t.heap ∧ T'.vm = t.vm ∧ Qa st₀ (.returned v) t ∧
      Goes p e below T g T' { g with pc := g.pc + 3, stack := v.toList ++ rest }) ∨
    (∃ (q : Addr) (st₀ t T' : State) (L : List Loc) (E : String) (ce : Cell), st₀.heap = H ∧ Stand p l e R s m args below meth c T' (locs ++ L) (cells + mc) (slots + ms) ∧ (∀ z ∈ L, free z.base) ∧ T'.heap = t.heap ∧ T'.vm = t.vm ∧ XC E st₀ t ∧ t.heap[q]? = some ce ∧ ce.vm = .none ∧ s.vm.findClass E = some ce.cls ∧
      Steps p.tables e below (T.setTop g) ((T'.setTop { g with stack := rest }).pushFrame (.throwing q)))
def vx_X {S : Type} (px : S → Prop) (B : String → S → State → Prop) (A : Nat → Prop) : String → State → State → Prop := fun E st t => ∃ u : S, px u ∧ B E u t ∧ va_F A st t
section Runs
variable {p : Program} {l : Launch} {e : Env} {R : Room} {s : State} {m : MethodId} {args : Array Value} {below : List Frame} {meth : Method} {c : Code} {H : Heap} {locs : List Loc} {cells slots : Nat}
variable {y : MethodName} {bytes cc : ByteArray} {maxL nL mc ms n index : Nat} {ret : Option FieldType} {ws : List Cond} {rm : Room} {Pc : Array Value → State → Prop} {Qc : Array Value → State → Outcome → State → Prop} {XC : String → State → State → Prop} {free : Addr → Prop} {Ts : List Cond} {own C : String} {b : Addr} {As rest : List Value} {g : JFrame}
theorem vx_callBack (cb : CallB R s args own index y bytes maxL ret ws rm mc ms n) (hM : vx_Met l y ws rm Pc Qc XC mc ms free) (hbl : FrameBlind Pc) : vx_Back l R p e below s args y 3 8 (PreOf R mc ms Pc) (PostOf Qc mc ms free) (vx_Post XC mc ms free) := by
  obtain ⟨hrc, hrs, hfr, hlo, hws, hcw, -, hini, -⟩ := cb
  exact vx_back (bytes := bytes) (maxL := maxL) (ret := ret) hM hbl hrc hrs hfr hlo hws hcw (fun a' U hW => word_at hW (Or.inl (by first | rfl | simp [Cond.onTables, Cond.keeps, Cond.steady])) hini)
theorem vx_runV (S : CallFix p m c cc nL s args Ts own) (hM : vx_Met l y ws rm Pc Qc XC mc ms free) (cw : CallW R s args own C index y bytes maxL ret ws rm mc ms n) (hp : PreV s H C b Pc As)
    (hg : g.method = m) (hn : As.length = n) (hsize : g.locals.size = nL) (hstack : g.stack = As.reverse ++ .ref b :: rest) (hW : 2 * g.monitorRoom + (rest.map fun v => v.category).sum ≤ 8) (hdg : decode cc g.pc = .ok (.invokevirtual index, 3)) (hf : cells + mc ≤ R.cells ∧ slots + ms ≤ R.slots) :
    vx_Run p l e R s m args below meth c H locs cells slots mc ms g rest (Qc (Value.ref b :: As).toArray) XC free := by
  have hK : vx_Back l R p e below s args y 3 8 (PreOf R mc ms Pc) (PostOf Qc mc ms free) (vx_Post XC mc ms free) := vx_callBack cw.1 hM hp.1
  obtain ⟨⟨-, -, -, -, -, -, hcode, -, hy, hlen, hl⟩, hin, hse⟩ := cw
  obtain ⟨hx, hb, hml, ho, -⟩ := S
  obtain ⟨-, ⟨cellB, hcB, hoB, hclB⟩, hPc⟩ := hp
  intro T hT X
  rcases vx_callV X hx (C := C) (bytes := bytes) (maxL := maxL) (ret := ret) ho hl hin hse hcode hy hK (by rw [hT]; exact hcB) hoB hclB hg (hsize.trans hml.symm) (argsL := As) (rest := rest) (fun sig h => hn.trans (hlen sig h)) hstack hW (by rw [hb]; exact hdg)
    (fun vm₁ hW₁ => ⟨hf.1, hf.2, hPc (T.setVm vm₁) hT hW₁⟩) with ⟨v, vm₁, ⟨U', l2, c2, s2⟩, hW₁, X', ⟨g', mk, t, L, e1, e2, hq, h1, hL, h2, h3⟩, st⟩ | ⟨q, vm₁, ⟨U', l2, c2, s2⟩, hW₁, X', ⟨g', mk, t, L, E, ce, e1, e2, hq, hce, hcv, hcl, h1, hL, h2, h3⟩, st⟩
  · dsimp only [Pt.U, Pt.locs, Pt.cells, Pt.slots] at X' e1 e2 h1 h2 h3 st
    subst h1; subst h2; subst h3
    exact Or.inl ⟨v, (T.setVm vm₁).calling g' mk (Value.ref b :: As).toArray, t, U', L, hT, X', hL, e1, e2, hq, st⟩
  · dsimp only [Pt.U, Pt.locs, Pt.cells, Pt.slots] at X' e1 e2 h1 h2 h3 st hcl
    subst h1; subst h2; subst h3
    exact Or.inr ⟨q, (T.setVm vm₁).calling g' mk (Value.ref b :: As).toArray, t, U', L, E, ce, hT, X', hL, e1, e2, hq, hce, hcv, vx_cls hW₁ hcl, st⟩
theorem vx_runS (S : CallFix p m c cc nL s args Ts own) (hM : vx_Met l y ws rm Pc Qc XC mc ms free) (cw : CallB R s args own index y bytes maxL ret ws rm mc ms n ∧ (Cond.static y).before args s = true) (hp : PreS s H Pc As)
    (hg : g.method = m) (hn : As.length = n) (hsize : g.locals.size = nL) (hstack : g.stack = As.reverse ++ rest) (hW : 2 * g.monitorRoom + (rest.map fun v => v.category).sum ≤ 8) (hdg : decode cc g.pc = .ok (.invokestatic index, 3)) (hf : cells + mc ≤ R.cells ∧ slots + ms ≤ R.slots) :
    vx_Run p l e R s m args below meth c H locs cells slots mc ms g rest (Qc As.toArray) XC free := by
  have hK : vx_Back l R p e below s args y 3 8 (PreOf R mc ms Pc) (PostOf Qc mc ms free) (vx_Post XC mc ms free) := vx_callBack cw.1 hM hp.1
  obtain ⟨⟨-, -, -, -, -, -, hcode, hini, hy, hlen, hl⟩, hstt⟩ := cw
  obtain ⟨hx, hb, hml, ho, -⟩ := S
  intro T hT X
  rcases vx_callS X hx (bytes := bytes) (maxL := maxL) (ret := ret) ho hl hstt hini hcode hy hK hg (hsize.trans hml.symm) (argsL := As) (rest := rest) (fun sig h => hn.trans (hlen sig h)) hstack hW (by rw [hb]; exact hdg)
    (fun vm₁ hW₁ => ⟨hf.1, hf.2, hp.2 (T.setVm vm₁) hT hW₁⟩) with ⟨v, vm₁, ⟨U', l2, c2, s2⟩, hW₁, X', ⟨g', mk, t, L, e1, e2, hq, h1, hL, h2, h3⟩, st⟩ | ⟨q, vm₁, ⟨U', l2, c2, s2⟩, hW₁, X', ⟨g', mk, t, L, E, ce, e1, e2, hq, hce, hcv, hcl, h1, hL, h2, h3⟩, st⟩
  · dsimp only [Pt.U, Pt.locs, Pt.cells, Pt.slots] at X' e1 e2 h1 h2 h3 st
    subst h1; subst h2; subst h3
    exact Or.inl ⟨v, (T.setVm vm₁).calling g' mk As.toArray, t, U', L, hT, X', hL, e1, e2, hq, st⟩
  · dsimp only [Pt.U, Pt.locs, Pt.cells, Pt.slots] at X' e1 e2 h1 h2 h3 st hcl
    subst h1; subst h2; subst h3
    exact Or.inr ⟨q, (T.setVm vm₁).calling g' mk As.toArray, t, U', L, E, ce, hT, X', hL, e1, e2, hq, hce, hcv, vx_cls hW₁ hcl, st⟩
end Runs
section Rows
variable {p : Program} {l : Launch} {e : Env} {R : Room} {s : State} {m : MethodId} {args : Array Value} {below : List Frame} {meth : Method} {c : Code} {H : Heap} {locs : List Loc} {cells slots : Nat} {Q : State → Prop}
variable {mc ms : Nat} {free : Addr → Prop} {A0 A1 : Nat → Prop} {H0 : Heap} {a : Array Value} {pc : Nat} {ls : Array Slot} {st0 rest : List Value}
theorem vx_keep {st₀ t T' : State} {L : List Loc} (h0 : st₀.heap = H) (e1 : T'.heap = t.heap) (hS : va_S A0 H0 H locs) (hA : ∀ q, q < H.size → A1 q → A0 q) (hf : ∀ q, free q → A0 q) (hL : ∀ q ∈ L, free q.base) (hF : va_F A1 st₀ t) :
    H.size ≤ T'.heap.size ∧ (∀ q : Nat, q < H.size → ¬ A1 q → T'.heap[q]? = H[q]?) ∧ va_S A0 H0 T'.heap (locs ++ L) := by
  obtain ⟨hz, hk⟩ := hF
  rw [h0] at hz hk
  exact ⟨by rw [e1]; exact hz, fun q h1 h2 => by rw [e1]; exact hk q h1 h2,
    ⟨Nat.le_trans hS.1 (by rw [e1]; exact hz), fun q h1 h2 => by rw [e1, hk q (Nat.lt_of_lt_of_le h1 hS.1) (fun z => h2 (hA q (Nat.lt_of_lt_of_le h1 hS.1) z))]; exact hS.2.1 q h1 h2, fun q hq => by
      rcases List.mem_append.mp hq with h | h
      · exact hS.2.2 q h
      · exact hf _ (hL q h)⟩⟩
theorem vx_calli {S SX : Type} {post : Int32 → S → Prop} {px : SX → Prop} {B : S → State → Prop} {BX : String → SX → State → Prop} {AX : Nat → Prop} (hr : vx_Run p l e R s m args below meth c H locs cells slots mc ms (F0 m pc ls st0) rest (va_Qi post B A1 a) (vx_X px BX AX) free) (hS : va_S A0 H0 H locs) (hA : ∀ q, q < H.size → A1 q → A0 q) (hf : ∀ q, free q → A0 q) (hAX : ∀ q, q < H.size → AX q → A0 q)
    (kx : ∀ (E : String) (ce : Cell) (q9 : Addr) (u : SX) (t : State) (H1 : Heap) (locs1 : List Loc), t.heap = H1 → s.vm.Alike t.vm → px u → BX E u t → H.size ≤ H1.size → (∀ q : Nat, q < H.size → ¬ AX q → H1[q]? = H[q]?) → va_S A0 H0 H1 locs1 → H1[q9]? = some ce → ce.vm = .none → s.vm.findClass E = some ce.cls → vx_W p l e R s m args below meth c H1 locs1 (cells + mc) (slots + ms) Q (F0 m pc ls rest) q9)
    (kk : ∀ (r : Int32) (u : S) (t : State) (H1 : Heap) (locs1 : List Loc), t.heap = H1 → s.vm.Alike t.vm → post r u → B u t → H.size ≤ H1.size → (∀ q : Nat, q < H.size → ¬ A1 q → H1[q]? = H[q]?) → va_S A0 H0 H1 locs1 → W p l e R s m args below meth c H1 locs1 (cells + mc) (slots + ms) Q (F0 m (pc + 3) ls (.int r :: rest))) : W p l e R s m args below meth c H locs cells slots Q (F0 m pc ls st0) := by
  intro T hT X
  rcases hr T hT X with ⟨v, st₀, t, T', L, h0, X', hL, e1, e2, ⟨⟨r, u, hv, hp, hb⟩, hF⟩, st⟩ | ⟨q, st₀, t, T', L, E, ce, h0, X', hL, e1, e2, ⟨u, hp, hb, hF⟩, hce, hcv, hcl, st⟩
  · cases hv
    obtain ⟨k1, k2, k3⟩ := vx_keep h0 e1 hS hA hf hL hF
    obtain ⟨t2, a1, b1⟩ := kk r u t T'.heap (locs ++ L) e1.symm (by rw [← e2]; exact X'.warmed.alike) hp hb k1 k2 k3 T' rfl X'
    exact ⟨t2, st t2 a1, b1⟩
  · obtain ⟨k1, k2, k3⟩ := vx_keep h0 e1 hS hAX hf hL hF
    obtain ⟨t2, a1, b1⟩ := kx E ce q u t T'.heap (locs ++ L) e1.symm (by rw [← e2]; exact X'.warmed.alike) hp hb k1 k2 k3 (by rw [e1]; exact hce) hcv hcl T' rfl X'
    exact ⟨t2, st.trans a1, b1⟩
theorem vx_calll {S SX : Type} {post : Int64 → S → Prop} {px : SX → Prop} {B : S → State → Prop} {BX : String → SX → State → Prop} {AX : Nat → Prop} (hr : vx_Run p l e R s m args below meth c H locs cells slots mc ms (F0 m pc ls st0) rest (va_Ql post B A1 a) (vx_X px BX AX) free) (hS : va_S A0 H0 H locs) (hA : ∀ q, q < H.size → A1 q → A0 q) (hf : ∀ q, free q → A0 q) (hAX : ∀ q, q < H.size → AX q → A0 q)
    (kx : ∀ (E : String) (ce : Cell) (q9 : Addr) (u : SX) (t : State) (H1 : Heap) (locs1 : List Loc), t.heap = H1 → s.vm.Alike t.vm → px u → BX E u t → H.size ≤ H1.size → (∀ q : Nat, q < H.size → ¬ AX q → H1[q]? = H[q]?) → va_S A0 H0 H1 locs1 → H1[q9]? = some ce → ce.vm = .none → s.vm.findClass E = some ce.cls → vx_W p l e R s m args below meth c H1 locs1 (cells + mc) (slots + ms) Q (F0 m pc ls rest) q9)
    (kk : ∀ (r : Int64) (u : S) (t : State) (H1 : Heap) (locs1 : List Loc), t.heap = H1 → s.vm.Alike t.vm → post r u → B u t → H.size ≤ H1.size → (∀ q : Nat, q < H.size → ¬ A1 q → H1[q]? = H[q]?) → va_S A0 H0 H1 locs1 → W p l e R s m args below meth c H1 locs1 (cells + mc) (slots + ms) Q (F0 m (pc + 3) ls (.long r :: rest))) : W p l e R s m args below meth c H locs cells slots Q (F0 m pc ls st0) := by
  intro T hT X
  rcases hr T hT X with ⟨v, st₀, t, T', L, h0, X', hL, e1, e2, ⟨⟨r, u, hv, hp, hb⟩, hF⟩, st⟩ | ⟨q, st₀, t, T', L, E, ce, h0, X', hL, e1, e2, ⟨u, hp, hb, hF⟩, hce, hcv, hcl, st⟩
  · cases hv
    obtain ⟨k1, k2, k3⟩ := vx_keep h0 e1 hS hA hf hL hF
    obtain ⟨t2, a1, b1⟩ := kk r u t T'.heap (locs ++ L) e1.symm (by rw [← e2]; exact X'.warmed.alike) hp hb k1 k2 k3 T' rfl X'
    exact ⟨t2, st t2 a1, b1⟩
  · obtain ⟨k1, k2, k3⟩ := vx_keep h0 e1 hS hAX hf hL hF
    obtain ⟨t2, a1, b1⟩ := kx E ce q u t T'.heap (locs ++ L) e1.symm (by rw [← e2]; exact X'.warmed.alike) hp hb k1 k2 k3 (by rw [e1]; exact hce) hcv hcl T' rfl X'
    exact ⟨t2, st.trans a1, b1⟩
theorem vx_callf {S SX : Type} {post : UInt32 → S → Prop} {px : SX → Prop} {B : S → State → Prop} {BX : String → SX → State → Prop} {AX : Nat → Prop} (hr : vx_Run p l e R s m args below meth c H locs cells slots mc ms (F0 m pc ls st0) rest (va_Qf post B A1 a) (vx_X px BX AX) free) (hS : va_S A0 H0 H locs) (hA : ∀ q, q < H.size → A1 q → A0 q) (hf : ∀ q, free q → A0 q) (hAX : ∀ q, q < H.size → AX q → A0 q)
    (kx : ∀ (E : String) (ce : Cell) (q9 : Addr) (u : SX) (t : State) (H1 : Heap) (locs1 : List Loc), t.heap = H1 → s.vm.Alike t.vm → px u → BX E u t → H.size ≤ H1.size → (∀ q : Nat, q < H.size → ¬ AX q → H1[q]? = H[q]?) → va_S A0 H0 H1 locs1 → H1[q9]? = some ce → ce.vm = .none → s.vm.findClass E = some ce.cls → vx_W p l e R s m args below meth c H1 locs1 (cells + mc) (slots + ms) Q (F0 m pc ls rest) q9)
    (kk : ∀ (r : UInt32) (u : S) (t : State) (H1 : Heap) (locs1 : List Loc), t.heap = H1 → s.vm.Alike t.vm → post r u → B u t → H.size ≤ H1.size → (∀ q : Nat, q < H.size → ¬ A1 q → H1[q]? = H[q]?) → va_S A0 H0 H1 locs1 → W p l e R s m args below meth c H1 locs1 (cells + mc) (slots + ms) Q (F0 m (pc + 3) ls (.float r :: rest))) : W p l e R s m args below meth c H locs cells slots Q (F0 m pc ls st0) := by
  intro T hT X
  rcases hr T hT X with ⟨v, st₀, t, T', L, h0, X', hL, e1, e2, ⟨⟨r, u, hv, hp, hb⟩, hF⟩, st⟩ | ⟨q, st₀, t, T', L, E, ce, h0, X', hL, e1, e2, ⟨u, hp, hb, hF⟩, hce, hcv, hcl, st⟩
  · cases hv
    obtain ⟨k1, k2, k3⟩ := vx_keep h0 e1 hS hA hf hL hF
    obtain ⟨t2, a1, b1⟩ := kk r u t T'.heap (locs ++ L) e1.symm (by rw [← e2]; exact X'.warmed.alike) hp hb k1 k2 k3 T' rfl X'
    exact ⟨t2, st t2 a1, b1⟩
  · obtain ⟨k1, k2, k3⟩ := vx_keep h0 e1 hS hAX hf hL hF
    obtain ⟨t2, a1, b1⟩ := kx E ce q u t T'.heap (locs ++ L) e1.symm (by rw [← e2]; exact X'.warmed.alike) hp hb k1 k2 k3 (by rw [e1]; exact hce) hcv hcl T' rfl X'
    exact ⟨t2, st.trans a1, b1⟩
theorem vx_calld {S SX : Type} {post : UInt64 → S → Prop} {px : SX → Prop} {B : S → State → Prop} {BX : String → SX → State → Prop} {AX : Nat → Prop} (hr : vx_Run p l e R s m args below meth c H locs cells slots mc ms (F0 m pc ls st0) rest (va_Qd post B A1 a) (vx_X px BX AX) free) (hS : va_S A0 H0 H locs) (hA : ∀ q, q < H.size → A1 q → A0 q) (hf : ∀ q, free q → A0 q) (hAX : ∀ q, q < H.size → AX q → A0 q)
    (kx : ∀ (E : String) (ce : Cell) (q9 : Addr) (u : SX) (t : State) (H1 : Heap) (locs1 : List Loc), t.heap = H1 → s.vm.Alike t.vm → px u → BX E u t → H.size ≤ H1.size → (∀ q : Nat, q < H.size → ¬ AX q → H1[q]? = H[q]?) → va_S A0 H0 H1 locs1 → H1[q9]? = some ce → ce.vm = .none → s.vm.findClass E = some ce.cls → vx_W p l e R s m args below meth c H1 locs1 (cells + mc) (slots + ms) Q (F0 m pc ls rest) q9)
    (kk : ∀ (r : UInt64) (u : S) (t : State) (H1 : Heap) (locs1 : List Loc), t.heap = H1 → s.vm.Alike t.vm → post r u → B u t → H.size ≤ H1.size → (∀ q : Nat, q < H.size → ¬ A1 q → H1[q]? = H[q]?) → va_S A0 H0 H1 locs1 → W p l e R s m args below meth c H1 locs1 (cells + mc) (slots + ms) Q (F0 m (pc + 3) ls (.double r :: rest))) : W p l e R s m args below meth c H locs cells slots Q (F0 m pc ls st0) := by
  intro T hT X
  rcases hr T hT X with ⟨v, st₀, t, T', L, h0, X', hL, e1, e2, ⟨⟨r, u, hv, hp, hb⟩, hF⟩, st⟩ | ⟨q, st₀, t, T', L, E, ce, h0, X', hL, e1, e2, ⟨u, hp, hb, hF⟩, hce, hcv, hcl, st⟩
  · cases hv
    obtain ⟨k1, k2, k3⟩ := vx_keep h0 e1 hS hA hf hL hF
    obtain ⟨t2, a1, b1⟩ := kk r u t T'.heap (locs ++ L) e1.symm (by rw [← e2]; exact X'.warmed.alike) hp hb k1 k2 k3 T' rfl X'
    exact ⟨t2, st t2 a1, b1⟩
  · obtain ⟨k1, k2, k3⟩ := vx_keep h0 e1 hS hAX hf hL hF
    obtain ⟨t2, a1, b1⟩ := kx E ce q u t T'.heap (locs ++ L) e1.symm (by rw [← e2]; exact X'.warmed.alike) hp hb k1 k2 k3 (by rw [e1]; exact hce) hcv hcl T' rfl X'
    exact ⟨t2, st.trans a1, b1⟩
theorem vx_callv {S SX : Type} {post : S → Prop} {px : SX → Prop} {B : S → State → Prop} {BX : String → SX → State → Prop} {AX : Nat → Prop} (hr : vx_Run p l e R s m args below meth c H locs cells slots mc ms (F0 m pc ls st0) rest (va_Qv post B A1 a) (vx_X px BX AX) free) (hS : va_S A0 H0 H locs) (hA : ∀ q, q < H.size → A1 q → A0 q) (hf : ∀ q, free q → A0 q) (hAX : ∀ q, q < H.size → AX q → A0 q)
    (kx : ∀ (E : String) (ce : Cell) (q9 : Addr) (u : SX) (t : State) (H1 : Heap) (locs1 : List Loc), t.heap = H1 → s.vm.Alike t.vm → px u → BX E u t → H.size ≤ H1.size → (∀ q : Nat, q < H.size → ¬ AX q → H1[q]? = H[q]?) → va_S A0 H0 H1 locs1 → H1[q9]? = some ce → ce.vm = .none → s.vm.findClass E = some ce.cls → vx_W p l e R s m args below meth c H1 locs1 (cells + mc) (slots + ms) Q (F0 m pc ls rest) q9)
    (kk : ∀ (u : S) (t : State) (H1 : Heap) (locs1 : List Loc), t.heap = H1 → s.vm.Alike t.vm → post u → B u t → H.size ≤ H1.size → (∀ q : Nat, q < H.size → ¬ A1 q → H1[q]? = H[q]?) → va_S A0 H0 H1 locs1 → W p l e R s m args below meth c H1 locs1 (cells + mc) (slots + ms) Q (F0 m (pc + 3) ls (rest))) : W p l e R s m args below meth c H locs cells slots Q (F0 m pc ls st0) := by
  intro T hT X
  rcases hr T hT X with ⟨v, st₀, t, T', L, h0, X', hL, e1, e2, ⟨⟨u, hv, hp, hb⟩, hF⟩, st⟩ | ⟨q, st₀, t, T', L, E, ce, h0, X', hL, e1, e2, ⟨u, hp, hb, hF⟩, hce, hcv, hcl, st⟩
  · cases hv
    obtain ⟨k1, k2, k3⟩ := vx_keep h0 e1 hS hA hf hL hF
    obtain ⟨t2, a1, b1⟩ := kk u t T'.heap (locs ++ L) e1.symm (by rw [← e2]; exact X'.warmed.alike) hp hb k1 k2 k3 T' rfl X'
    exact ⟨t2, st t2 a1, b1⟩
  · obtain ⟨k1, k2, k3⟩ := vx_keep h0 e1 hS hAX hf hL hF
    obtain ⟨t2, a1, b1⟩ := kx E ce q u t T'.heap (locs ++ L) e1.symm (by rw [← e2]; exact X'.warmed.alike) hp hb k1 k2 k3 (by rw [e1]; exact hce) hcv hcl T' rfl X'
    exact ⟨t2, st.trans a1, b1⟩
/-- caught by the row x of this method's table; the rows ahead don't take it -/
theorem vx_catch {own name : String} {E : String} {ce : Cell} {q : Addr} (hown : s.vm.findClass own = some m.cls) (pre : List ExceptionTableEntry) (x : ExceptionTableEntry) (suf : List ExceptionTableEntry) (hsplit : c.exceptionTable.toList = pre ++ x :: suf)
    (hpass : ∀ z ∈ pre, covers z pc = false ∨ (z.catchType ≠ 0 ∧ ∃ nm : String, (Cond.classLink own z.catchType nm).before args s = true ∧ va_Nc E nm s)) (hx : covers x pc = true) (h0 : x.catchType ≠ 0)
    (hlink : (Cond.classLink own x.catchType name).before args s = true) (hcast : (Cond.castable E name).before args s = true) (hcell : H[q]? = some ce) (hv : ce.vm = .none) (hcl : s.vm.findClass E = some ce.cls)
    (kk : W p l e R s m args below meth c H locs cells slots Q (F0 m x.handlerPc ls [.ref q])) : vx_W p l e R s m args below meth c H locs cells slots Q (F0 m pc ls rest) q := by
  intro T hT X
  have hpl : e.platform.magicAccessors = ({} : Platform).magicAccessors := by rw [X.admits.platform]
  obtain ⟨c3, c4, hc3, hc4, hasg⟩ := Cond.castable_spec hcast
  cases Option.some.inj (hc3.symm.trans hcl)
  obtain ⟨c5, hc5, hcl5⟩ := Cond.classLink_spec hown hlink e.platform hpl
  cases Option.some.inj (hc4.symm.trans hc5)
  obtain ⟨vm', X', st⟩ := X.thenCaughtThrough q (g := F0 m pc ls rest) rfl (Steps.refl _) (by rw [hT]; exact hcell) (by rw [hv]; rfl) (by obtain ⟨k9, h9, -⟩ := Vm.findClass_spec hcl; exact ⟨k9, h9⟩) pre x suf hsplit
    (fun z hz => by
      rcases hpass z hz with h | ⟨hz0, nm, hl1, hn1⟩
      · exact Or.inl h
      · obtain ⟨c6, hc6, hcl6⟩ := Cond.classLink_spec hown hl1 e.platform hpl
        obtain ⟨a8, b8, h1, h2, h3⟩ := hn1
        cases Option.some.inj (h1.symm.trans hcl)
        cases Option.some.inj (h2.symm.trans hc6)
        exact Or.inr ⟨hz0, _, hcl6, h3⟩) hx (Or.inr ⟨h0, c4, hcl5, hasg⟩)
  obtain ⟨t, a1, b1⟩ := kk (T.setVm vm') hT X'
  exact ⟨t, st.trans a1, b1⟩
end Rows
section Ends
variable {p : Program} {l : Launch} {e : Env} {R : Room} {s : State} {m : MethodId} {args : Array Value} {below : List Frame} {meth : Method} {c : Code} {H : Heap} {locs : List Loc} {cells slots : Nat} {Q : State → Prop}
variable {mc ms : Nat} {free : Addr → Prop} {A0 A1 : Nat → Prop} {H0 : Heap} {a : Array Value} {ls : Array Slot} {st0 rest : List Value}
variable {Qc : Array Value → State → Outcome → State → Prop} {XC : String → State → State → Prop}
/-- what a body that may throw owes at its end -/
def vx_MQ (below : List Frame) (Qc : Array Value → State → Outcome → State → Prop) (XC : String → State → State → Prop) (a : Array Value) (s : State) (mc ms : Nat) (free : Addr → Prop) : State → Prop := fun t =>
  ∃ o, t.status = .running ∧ Ended t below o ∧ vx_Q Qc XC mc ms free a s o t
theorem vx_ret {g : JFrame} {mc ms : Nat} (k : W p l e R s m args below meth c H locs cells slots (MQ below Qc args s mc ms free) g) : W p l e R s m args below meth c H locs cells slots (vx_MQ below Qc XC args s mc ms free) g := by
  intro T hT X
  obtain ⟨t, a1, o, b1, b2, b3, b4⟩ := k T hT X
  exact ⟨t, a1, o, b1, b2, Or.inl ⟨b3, b4⟩⟩
/-- not caught here: it goes on to the caller -/
theorem vx_widen {g : JFrame} {q : Addr} {k n : Nat} (h1 : cells ≤ k) (h2 : slots ≤ n) (kk : vx_W p l e R s m args below meth c H locs k n Q g q) : vx_W p l e R s m args below meth c H locs cells slots Q g q := fun T hT X => kk T hT (stand_widen X h1 h2)
theorem vx_out {pc : Nat} {E : String} {ce : Cell} {q : Addr} {mc ms : Nat} (hout : ∀ x ∈ c.exceptionTable.toList, covers x pc = false) (hlocks : meth.locks = false) (hcell : H[q]? = some ce) (hv : ce.vm = .none) (hcl : s.vm.findClass E = some ce.cls)
    (hx : ∀ t : State, t.heap = H → s.vm.Alike t.vm → XC E s t) (hf : ∀ z ∈ locs, free z.base) (hc : cells ≤ mc) (hs : slots ≤ ms) :
    vx_W p l e R s m args below meth c H locs cells slots (vx_MQ below Qc XC args s mc ms free) (F0 m pc ls rest) q := by
  intro T hT X
  obtain ⟨st1, hrun, hend, hW, hsm⟩ := X.leaveThrown q (g := F0 m pc ls rest) rfl rfl rfl hout hlocks
  have hcell9 : (T.setFrames (.throwing q :: below)).heap[q]? = some ce := by
    show T.heap[q]? = some ce
    rw [hT]; exact hcell
  exact ⟨_, st1, .threw q, hrun, hend, Or.inr ⟨q, rfl, E, ce, locs, hx _ hT hW.alike, hcell9, hv, hcl, hW, hsm.mono hc hs, hf⟩⟩
theorem vx_frame {U : State} {k n : Nat} (h : s.sameButNew ({ U with vm := s.vm } : State) locs k n) : s.heap.size ≤ U.heap.size ∧ ∀ q : Nat, q < s.heap.size → (∀ z ∈ locs, z.base ≠ q) → U.heap[q]? = s.heap[q]? := by
  obtain ⟨-, h2, -, -, -, h6⟩ := h
  refine ⟨h2, fun q hq hz => ?_⟩
  obtain ⟨c9, e1, e2, e3, e4⟩ := h6 q _ (Array.getElem?_eq_getElem hq)
  have hs : c9.slots = (s.heap[q]).slots := Array.ext_getElem? fun i => e4 i fun hm => hz _ hm rfl
  have h9 : c9 = s.heap[q] := by
    rw [hs] at e2
    exact e2
  have e5 : U.heap[q]? = some c9 := e1
  rw [e5, h9, Array.getElem?_eq_getElem hq]
/-- the words of a throw but the four that speak of the heap -/
def vx_no (w : Cond) : Bool := decide (w ≠ .isRef (.static Bundle.tN "UNASSIGNED_STACK" Bundle.steD)) && decide (w ≠ .isRef (.static Bundle.tN "SUPPRESSED_SENTINEL" Bundle.listD)) && decide (w ≠ .laysStatic Bundle.tN "UNASSIGNED_STACK" Bundle.steD) && decide (w ≠ .laysStatic Bundle.tN "SUPPRESSED_SENTINEL" Bundle.listD)
def vx_at0 (own : String) (ic : Nat) (X : String) (names : List String) : List Cond := (Bundle.ownAtoms0 own ic X names).filter vx_no
def vx_atS (own : String) (ic : Nat) (X : String) (names : List String) : List Cond := (Bundle.ownAtoms own ic X names).filter vx_no
/-- a word that the tables alone decide, or a good one -/
def vx_ot (w : Cond) : Bool := w.onTables || goodWord w
theorem vx_ot_at {args a' : Array Value} {s U : State} {w : Cond} (hW : s.WarmedH U.vm) (hvm : s.vm = U.vm) (hg : vx_ot w = true) (h : w.before args s = true) : w.before a' U = true := by
  simp only [vx_ot, Bool.or_eq_true] at hg
  rcases hg with hg | hg
  · exact va_tabs hg hvm h
  · exact word_at hW (good_of_word hg) h
/-- a list's words: the good ones out of the method's own list, the others by premises of their own -/
theorem vx_hat {args : Array Value} {s : State} {L B : List Cond} (h1 : ∀ w ∈ L.filter goodWord, w.before args s = true) (h2 : ∀ w ∈ L.filter (fun w => !goodWord w), w ∈ B) (h3 : ∀ w ∈ B, w.before args s = true) : ∀ w ∈ L, w.before args s = true := by
  intro w hw
  by_cases g : goodWord w = true
  · exact h1 w (List.mem_filter.mpr ⟨hw, g⟩)
  · refine h3 w (h2 w (List.mem_filter.mpr ⟨hw, ?_⟩))
    show (!goodWord w) = true
    cases hgw : goodWord w
    · rfl
    · exact absurd hgw g
theorem vx_c {args : Array Value} {s : State} {w : Cond} {B : List Cond} (h : w.before args s = true) (t : ∀ w ∈ B, w.before args s = true) : ∀ w' ∈ w :: B, w'.before args s = true := fun w' h' => (List.mem_cons.mp h').elim (fun e => by rw [e]; exact h) (t w')
theorem vx_n {args : Array Value} {s : State} : ∀ w ∈ ([] : List Cond), w.before args s = true := fun _ h => nomatch h
theorem vx_own {args : Array Value} {s : State} {L : List Cond} (h1 : ∀ w ∈ L.filter vx_no, w.before args s = true)
    (hU : (Cond.isRef (.static Bundle.tN "UNASSIGNED_STACK" Bundle.steD)).before args s = true) (hN : (Cond.isRef (.static Bundle.tN "SUPPRESSED_SENTINEL" Bundle.listD)).before args s = true)
    (lU : (Cond.laysStatic Bundle.tN "UNASSIGNED_STACK" Bundle.steD).before args s = true) (lN : (Cond.laysStatic Bundle.tN "SUPPRESSED_SENTINEL" Bundle.listD).before args s = true) : ∀ w ∈ L, w.before args s = true := by
  intro w hw
  by_cases e1 : w = .isRef (.static Bundle.tN "UNASSIGNED_STACK" Bundle.steD)
  · rw [e1]; exact hU
  · by_cases e2 : w = .isRef (.static Bundle.tN "SUPPRESSED_SENTINEL" Bundle.listD)
    · rw [e2]; exact hN
    · by_cases e3 : w = .laysStatic Bundle.tN "UNASSIGNED_STACK" Bundle.steD
      · rw [e3]; exact lU
      · by_cases e4 : w = .laysStatic Bundle.tN "SUPPRESSED_SENTINEL" Bundle.listD
        · rw [e4]; exact lN
        · exact h1 w (List.mem_filter.mpr ⟨hw, by unfold vx_no; rw [decide_eq_true e1, decide_eq_true e2, decide_eq_true e3, decide_eq_true e4]; rfl⟩)
/-- where a static field lies, its class's statics cell in H -/
def vx_L (C n d : String) (A : Nat → Prop) (U : State) (H : Heap) : Prop := ∃ (c : ClassId) (k : Class) (i : Nat) (f : Field) (a : Nat) (cell : Cell), U.vm.findClass C = some c ∧ U.fieldFound? C n d = some (c, k, i, f) ∧ f.isStatic = true ∧ k.statics = some a ∧ H[a]? = some cell ∧ cell.vm.isStatics = true ∧ cell.cls = c ∧ f.slot < cell.slots.size ∧ k.staticTypes[f.slot]? = some f.type ∧ ¬ A a
theorem vx_L.moved {C n d : String} {A : Nat → Prop} {u U : State} {H : Heap} (hvm : u.vm.Alike U.vm) (h : vx_L C n d A u H) : vx_L C n d A U H := by
  obtain ⟨c, k, i, f, a, cell, h1, h2, h3, h4, h5, h6, h7, h8, h9, h10⟩ := h
  obtain ⟨k', hi', he⟩ := State.fieldFound?_setVm hvm h2
  exact ⟨c, k', i, f, a, cell, by rw [hvm.findClass]; exact h1, hi', h3, by rw [he]; exact h4, h5, h6, h7, h8, by rw [he]; exact h9, h10⟩
theorem vx_L.kept {C n d : String} {A : Nat → Prop} {U : State} {H H1 : Heap} (h : vx_L C n d A U H) (hq : ∀ a : Nat, a < H.size → ¬ A a → H1[a]? = H[a]?) : vx_L C n d A U H1 := by
  obtain ⟨c, k, i, f, a, cell, h1, h2, h3, h4, h5, h6, h7, h8, h9, h10⟩ := h
  exact ⟨c, k, i, f, a, cell, h1, h2, h3, h4, by rw [hq a (Array.getElem?_eq_some_iff.mp h5).1 h10]; exact h5, h6, h7, h8, h9, h10⟩
theorem vx_L.narrow {C n d : String} {A B : Nat → Prop} {U : State} {H : Heap} (h : vx_L C n d A U H) (hAB : ∀ q, B q → A q) : vx_L C n d B U H := by
  obtain ⟨c, k, i, f, a, cell, h1, h2, h3, h4, h5, h6, h7, h8, h9, h10⟩ := h
  exact ⟨c, k, i, f, a, cell, h1, h2, h3, h4, h5, h6, h7, h8, h9, fun z => h10 (hAB _ z)⟩
theorem vx_L.word {C n d : String} {A : Nat → Prop} {s : State} {args : Array Value} (h : vx_L C n d A s s.heap) : (Cond.laysStatic C n d).before args s = true := by
  obtain ⟨c, k, i, f, a, cell, h1, h2, h3, h4, h5, h6, h7, h8, h9, -⟩ := h
  show (Cond.laysStatic C n d).holds args s none s [] = true
  exact Cond.laysStatic_of h1 h2 h3 h4 h5 h6 h7 h8 h9
/-- .. and what it holds: null or some reference -/
def vx_Zq (C n d : String) (A : Nat → Prop) (U : State) (H : Heap) : Prop := va_Zq C n d A U H ∧ vx_L C n d A U H
theorem vx_Zq.moved {C n d : String} {A : Nat → Prop} {u U : State} {H : Heap} (hvm : u.vm.Alike U.vm) (h : vx_Zq C n d A u H) : vx_Zq C n d A U H := ⟨va_Zq.moved hvm h.1, vx_L.moved hvm h.2⟩
theorem vx_Zq.kept {C n d : String} {A : Nat → Prop} {U : State} {H H1 : Heap} (h : vx_Zq C n d A U H) (hq : ∀ a : Nat, a < H.size → ¬ A a → H1[a]? = H[a]?) : vx_Zq C n d A U H1 := ⟨va_Zq.kept h.1 hq, vx_L.kept h.2 hq⟩
theorem vx_Zq.narrow {C n d : String} {A B : Nat → Prop} {U : State} {H : Heap} (h : vx_Zq C n d A U H) (hAB : ∀ q, B q → A q) : vx_Zq C n d B U H := ⟨va_Zq.narrow h.1 hAB, vx_L.narrow h.2 hAB⟩
theorem vx_Zqof {args : Array Value} {s : State} {C n d : String} {A : Nat → Prop} (hl : (Cond.laysStatic C n d).before args s = true) (hini : (Cond.initialized C).before args s = true) (h : (Cond.isRef (.static C n d)).before args s = true) (hA : ∀ a : Nat, a < s.heap.size → ¬ A a) : vx_Zq C n d A s s.heap := by
  refine ⟨va_Zqof hl hini h hA, ?_⟩
  obtain ⟨c, k, i, f, a, cell, h1, h2, h3, h4, h5, h6, h7, h8, h9⟩ := Cond.laysStatic_spec hl
  exact ⟨c, k, i, f, a, cell, h1, h2, h3, h4, h5, h6, h7, h8, h9, hA a (Array.getElem?_eq_some_iff.mp h5).1⟩
theorem vx_isRef {C n d : String} {v : Value} {A : Nat → Prop} {s : State} {args : Array Value} (h : va_Z C n d v A s s.heap) (hv : v.isRef = true) : (Cond.isRef (.static C n d)).before args s = true := by
  obtain ⟨cf, kf, fi, f, a, cell, h1, h2, h3, h4, h5, h6, h7, -⟩ := h
  have he : (Term.static C n d).eval args s none [] s = some v := by
    simp [Term.eval, State.fieldNamed?, h1, h2, h4, h5, h6, h7]
  simp only [Cond.before, Cond.holds, Cond.value, he]
  cases v <;> simp_all [Value.isRef]
theorem vx_isRefq {C n d : String} {A : Nat → Prop} {s : State} {args : Array Value} (h : va_Zq C n d A s s.heap) : (Cond.isRef (.static C n d)).before args s = true := by
  rcases h with h | ⟨t, h⟩
  · exact vx_isRef h rfl
  · exact vx_isRef h rfl
/-- the same frame, seen from here: as if the method were called anew in this heap -/
theorem vx_rebase {T : State} (X : Stand p l e R s m args below meth c T locs cells slots) {R' : Room} (hf : R'.frames ≤ R.frames) (hl : R'.locals ≤ R.locals) (hc : cells + R'.cells ≤ R.cells) (hs : slots + R'.slots ≤ R.slots) :
    Stand p l e R' ((T.setVm s.vm).setFrames (.invoking m args :: below)) m args below meth c T [] 0 0 := by
  have htop : (T.setVm s.vm).topJava?.isSome := X.here.top
  have hF : ((T.setVm s.vm).setFrames (.invoking m args :: below)).frames = .invoking m args :: below := State.frames_setFrames _ (State.cur_lt_of_top htop)
  obtain ⟨g₀, hg0⟩ := Option.isSome_iff_exists.mp htop
  obtain ⟨r, hr⟩ := State.topJava?_eq_some.mp hg0
  have hl9 : e.platform.stackLimits (T.setVm s.vm).me = e.platform.stackLimits s.me := X.limits
  have hb9 : (T.setVm s.vm).me.stackBytes = s.me.stackBytes := X.bytes
  refine ⟨X.admits, X.cas, X.clock, hF, ?_, X.hears, X.method, X.code, X.here, X.tail, X.warmed, ?_, ?_, ?_⟩
  · have h := X.room
    have hU : ((T.setVm s.vm).setFrames (.invoking m args :: below)).localsInUse = s.localsInUse := by
      rw [State.localsInUse_invoking hF (meth := meth) (c := c) X.method X.code, State.localsInUse_invoking X.frames X.method X.code]
    simp only [State.hasRoom, Bool.and_eq_true, decide_eq_true_eq] at h ⊢
    obtain ⟨⟨⟨⟨h1, h2, h3, h4, h5, h6⟩, h7⟩, h8⟩, h9⟩ := h
    rw [X.frames, List.length_cons] at h2 h3
    have q1 := X.heapSize
    have q2 := X.used
    simp only [hF, hU, List.length_cons, State.stackLimits_setFrames, State.stackBytes_setFrames, hl9, hb9]
    refine ⟨⟨⟨⟨by omega, by omega, by omega, by omega, by omega, h6⟩, ?_⟩, ?_⟩, X.book⟩
    · show T.heap.size + R'.cells ≤ e.platform.maxCells
      omega
    · show T.slotsUsed + R'.slots ≤ e.platform.maxSlots
      omega
  · rw [State.stackLimits_setFrames]; rfl
  · rw [State.stackBytes_setFrames]; rfl
  · refine ⟨?_, Nat.le_refl _, Nat.le_refl _, ?_, ?_, fun a c9 h9 => ⟨c9, h9, rfl, rfl, fun _ _ => rfl⟩⟩
    · obtain ⟨t, ht, -⟩ := State.frames_cons hr
      show T.setVm s.vm = { ((T.setVm s.vm).setFrames (.invoking m args :: below)).setFrames (T.setVm s.vm).frames with heap := T.heap, slotsUsed := T.slotsUsed }
      rw [State.setFrames_setFrames, State.setFrames_self ht]
      rfl
    · show T.slotsUsed = T.slotsUsed + ((T.heap.toList.drop T.heap.size).map (·.slots.size)).sum
      rw [List.drop_eq_nil_of_le (Nat.le_of_eq Array.length_toList)]
      rfl
    · show ((T.heap.toList.drop T.heap.size).map (·.slots.size)).sum ≤ 0
      rw [List.drop_eq_nil_of_le (Nat.le_of_eq Array.length_toList)]
      exact Nat.le_refl _
/-- 'throw new E()': new; dup; invokespecial; athrow -/
theorem vx_throw0 {cc : ByteArray} {pc : Nat} (hexec : p.tables.exec = Jvm.exec) (hb : c.code = cc) (hl : l.stackTraces = false) {own cls : String} {names : List String} {ik ic mc ms : Nat} {A : Nat → Prop}
    (hown : s.vm.findClass own = some m.cls) (hcls : Bundle.fit cls = true) (hnames : ∀ n ∈ names, Bundle.fit n = true)
    (hk : (Cond.classLink own ik cls).before args s = true) (hini : (Cond.initialized cls).before args s = true) (hat : ∀ w ∈ vx_at0 own ic cls names, w.before args s = true)
    (hgood : ∀ w ∈ Cond.classLink own ik cls :: Cond.initialized cls :: vx_at0 own ic cls names, vx_ot w = true)
    (hU : vx_Zq Bundle.tN "UNASSIGNED_STACK" Bundle.steD A s s.heap) (hN : vx_Zq Bundle.tN "SUPPRESSED_SENTINEL" Bundle.listD A s s.heap) (hS : va_S A s.heap H locs) (hsize : ls.size = c.maxLocals)
    (d0 : decode cc pc = .ok (.new ik, 3)) (d3 : decode cc (pc + 3) = .ok (.dup, 1)) (d4 : decode cc (pc + 4) = .ok (.invokespecial ic, 3)) (d7 : decode cc (pc + 7) = .ok (.athrow, 1))
    (hout : ∀ x ∈ c.exceptionTable.toList, covers x (pc + 7) = false)
    (hRframes : names.length + 3 < R.frames) (hRlocals : (rest.map fun v => v.category).sum + (13 * (names.length + 1) + 42) ≤ R.locals) (hRcells : cells + 1 ≤ R.cells) (hRslots : slots + 6 ≤ R.slots) (hlocks : meth.locks = false)
    (hx : ∀ t : State, s.vm.Alike t.vm → H.size ≤ t.heap.size → (∀ q : Nat, q < H.size → t.heap[q]? = H[q]?) → XC cls s t)
    (hf : ∀ z ∈ locs, free z.base) (hc : cells + 1 ≤ mc) (hs : slots + 6 ≤ ms) :
    W p l e R s m args below meth c H locs cells slots (vx_MQ below Qc XC args s mc ms free) (F0 m pc ls rest) := by
  intro T hT X
  have htr : e.platform.stackTraces = false := (show e.platform.stackTraces = l.stackTraces by rw [X.admits.platform]).trans hl
  have Y := vx_rebase X (R' := { frames := R.frames, locals := R.locals, cells := 1, slots := 6 }) (Nat.le_refl _) (Nat.le_refl _) hRcells hRslots
  obtain ⟨s', hA⟩ : ∃ z, z = (T.setVm s.vm).setFrames (.invoking m args :: below) := ⟨_, rfl⟩
  rw [← hA] at Y
  have hvm : s'.vm = s.vm := by rw [hA]; rfl
  have hhp : s'.heap = H := by rw [hA]; exact hT
  have hW0 : s.WarmedH s'.vm := by rw [hvm]; exact State.WarmedH.refl s
  have hat' : ∀ w ∈ vx_at0 own ic cls names, w.before args s' = true := fun w hw => vx_ot_at hW0 hvm.symm (hgood w (List.mem_cons_of_mem _ (List.mem_cons_of_mem _ hw))) (hat w hw)
  have hk' : (Cond.classLink own ik cls).before args s' = true := vx_ot_at hW0 hvm.symm (hgood _ List.mem_cons_self) hk
  have hini' : (Cond.initialized cls).before args s' = true := vx_ot_at hW0 hvm.symm (hgood _ (List.mem_cons_of_mem _ List.mem_cons_self)) hini
  have hU' : vx_Zq Bundle.tN "UNASSIGNED_STACK" Bundle.steD A s' s'.heap := by rw [hhp]; exact vx_Zq.moved hW0.alike (hU.kept hS.2.1)
  have hN' : vx_Zq Bundle.tN "SUPPRESSED_SENTINEL" Bundle.listD A s' s'.heap := by rw [hhp]; exact vx_Zq.moved hW0.alike (hN.kept hS.2.1)
  have h : ∀ w ∈ Bundle.ownAtoms0 own ic cls names, w.before args s' = true := vx_own hat' (vx_isRefq hU'.1) (vx_isRefq hN'.1) hU'.2.word hN'.2.word
  have hown' : s'.vm.findClass own = some m.cls := by rw [hvm]; exact hown
  have hins : (Cond.instantiable cls 6).before args s' = true := h _ (by simp [Bundle.ownAtoms0])
  obtain ⟨vm₁, cX, kX, hfX, hkX, -, -, X₁, st1⟩ := Y.newCold hexec (own := own) (C := cls) (index := ik) (n := 6) hown' hk' hins hini'
    (g := F0 m pc ls rest) rfl (by rw [hb]; exact d0) (Nat.le_refl _) (Nat.le_refl _)
  generalize hT1 : (T.setVm vm₁).pushCell { cls := cX, slots := kX.instanceTypes.map defaultValue, vm := .none } = T1 at X₁ st1
  have hcat : (Value.ref T.heap.size).category = 1 := rfl
  have hcellA : T1.heap[T.heap.size]? = some (freshCell cX kX) := by rw [← hT1]; exact State.heap_pushCell_size _ _
  have d3' : decode c.code (pc + 3) = .ok (.dup, 1) := by rw [hb]; exact d3
  obtain ⟨U, hsteps, hrun, hend, hW, hsame, ce, hce, hO⟩ := X₁.ctorThrow0 hexec htr (own := own) (cls := cls) (names := names) (ic := ic) hown' hcls hnames h (fun x hx => nomatch hx) hfX hkX hcellA (by rw [hhp, hT]; exact Nat.le_refl _)
    (g := { method := m, pc := pc + 4, locals := ls, stack := .ref T.heap.size :: .ref T.heap.size :: rest, locked := none }) rfl hsize rfl rfl (rest := rest) rfl
    (by rw [hb]; exact d4) (by rw [hb]; exact d7) hout hRframes (by simp only [List.map_cons, List.sum_cons, hcat]; omega) hlocks
  obtain ⟨f1, f2⟩ := vx_frame hsame
  rw [hhp] at f1 f2
  have hWs : s.WarmedH U.vm := State.WarmedH.trans hW0 hW
  have hcl : s.vm.findClass cls = some ce.cls := by
    have h9 := hO.cls
    rw [hvm] at h9
    exact h9
  have hall : s.sameButNew ({ U with vm := s.vm } : State) locs mc ms := by
    subst hA
    obtain ⟨e1, e2⟩ := hsame
    rw [State.setFrames_setFrames] at e1
    have h2 : (T.setVm s.vm).sameButNew ({ U with vm := s.vm } : State) [] (0 + 1) (0 + 6) := ⟨e1, e2⟩
    have h3 := X.same.trans h2
    rw [List.append_nil] at h3
    exact h3.mono hc hs
  refine ⟨U, ?_, .threw T.heap.size, hrun, hend, Or.inr ⟨T.heap.size, rfl, cls, ce, locs, hx U hWs.alike f1 (fun q hq => f2 q hq (fun z hz => nomatch hz)), hce, hO.vm, hcl, hWs, hall, hf⟩⟩
  refine st1 _ ?_
  show Steps p.tables e below (T1.setTop { method := m, pc := pc + 3, locals := ls, stack := .ref T.heap.size :: rest, locked := none }) _
  jvm_step X₁.here [X₁.here.top, hexec, d3', Value.category]
  exact hsteps
/-- 'throw new E("text")': new; dup; ldc; invokespecial; athrow -/
theorem vx_throwS {cc : ByteArray} {pc : Nat} (hexec : p.tables.exec = Jvm.exec) (hb : c.code = cc) (hl : l.stackTraces = false) {own cls text : String} {names : List String} {ik is ic mc ms sa : Nat} {A : Nat → Prop}
    (hown : s.vm.findClass own = some m.cls) (hcls : Bundle.fit cls = true) (hnames : ∀ n ∈ names, Bundle.fit n = true)
    (hk : (Cond.classLink own ik cls).before args s = true) (hini : (Cond.initialized cls).before args s = true) (hstr : vk_R own is text sa s) (hat : ∀ w ∈ vx_atS own ic cls names, w.before args s = true)
    (hgood : ∀ w ∈ Cond.classLink own ik cls :: Cond.initialized cls :: vx_atS own ic cls names, vx_ot w = true)
    (hU : vx_Zq Bundle.tN "UNASSIGNED_STACK" Bundle.steD A s s.heap) (hN : vx_Zq Bundle.tN "SUPPRESSED_SENTINEL" Bundle.listD A s s.heap) (hS : va_S A s.heap H locs) (hsize : ls.size = c.maxLocals)
    (d0 : decode cc pc = .ok (.new ik, 3)) (d3 : decode cc (pc + 3) = .ok (.dup, 1)) (d4 : decode cc (pc + 4) = .ok (.ldc is, 2)) (d6 : decode cc (pc + 6) = .ok (.invokespecial ic, 3)) (d9 : decode cc (pc + 9) = .ok (.athrow, 1))
    (hout : ∀ x ∈ c.exceptionTable.toList, covers x (pc + 9) = false)
    (hRframes : names.length + 3 < R.frames) (hRlocals : (rest.map fun v => v.category).sum + (13 * (names.length + 1) + 43) ≤ R.locals) (hRcells : cells + 1 ≤ R.cells) (hRslots : slots + 6 ≤ R.slots) (hlocks : meth.locks = false)
    (hx : ∀ t : State, s.vm.Alike t.vm → H.size ≤ t.heap.size → (∀ q : Nat, q < H.size → t.heap[q]? = H[q]?) → XC cls s t)
    (hf : ∀ z ∈ locs, free z.base) (hc : cells + 1 ≤ mc) (hs : slots + 6 ≤ ms) :
    W p l e R s m args below meth c H locs cells slots (vx_MQ below Qc XC args s mc ms free) (F0 m pc ls rest) := by
  intro T hT X
  have htr : e.platform.stackTraces = false := (show e.platform.stackTraces = l.stackTraces by rw [X.admits.platform]).trans hl
  have Y := vx_rebase X (R' := { frames := R.frames, locals := R.locals, cells := 1, slots := 6 }) (Nat.le_refl _) (Nat.le_refl _) hRcells hRslots
  obtain ⟨s', hA⟩ : ∃ z, z = (T.setVm s.vm).setFrames (.invoking m args :: below) := ⟨_, rfl⟩
  rw [← hA] at Y
  have hvm : s'.vm = s.vm := by rw [hA]; rfl
  have hhp : s'.heap = H := by rw [hA]; exact hT
  have hW0 : s.WarmedH s'.vm := by rw [hvm]; exact State.WarmedH.refl s
  have hat' : ∀ w ∈ vx_atS own ic cls names, w.before args s' = true := fun w hw => vx_ot_at hW0 hvm.symm (hgood w (List.mem_cons_of_mem _ (List.mem_cons_of_mem _ hw))) (hat w hw)
  have hk' : (Cond.classLink own ik cls).before args s' = true := vx_ot_at hW0 hvm.symm (hgood _ List.mem_cons_self) hk
  have hini' : (Cond.initialized cls).before args s' = true := vx_ot_at hW0 hvm.symm (hgood _ (List.mem_cons_of_mem _ List.mem_cons_self)) hini
  have hU' : vx_Zq Bundle.tN "UNASSIGNED_STACK" Bundle.steD A s' s'.heap := by rw [hhp]; exact vx_Zq.moved hW0.alike (hU.kept hS.2.1)
  have hN' : vx_Zq Bundle.tN "SUPPRESSED_SENTINEL" Bundle.listD A s' s'.heap := by rw [hhp]; exact vx_Zq.moved hW0.alike (hN.kept hS.2.1)
  have h : ∀ w ∈ Bundle.ownAtoms own ic cls names, w.before args s' = true := vx_own hat' (vx_isRefq hU'.1) (vx_isRefq hN'.1) hU'.2.word hN'.2.word
  have hown' : s'.vm.findClass own = some m.cls := by rw [hvm]; exact hown
  have hins : (Cond.instantiable cls 6).before args s' = true := h _ (by simp [Bundle.ownAtoms])
  obtain ⟨vm₁, cX, kX, hfX, hkX, -, -, X₁, st1⟩ := Y.newCold hexec (own := own) (C := cls) (index := ik) (n := 6) hown' hk' hins hini'
    (g := F0 m pc ls rest) rfl (by rw [hb]; exact d0) (Nat.le_refl _) (Nat.le_refl _)
  generalize hT1 : (T.setVm vm₁).pushCell { cls := cX, slots := kX.instanceTypes.map defaultValue, vm := .none } = T1 at X₁ st1
  have hcat : (Value.ref T.heap.size).category = 1 := rfl
  have hcellA : T1.heap[T.heap.size]? = some (freshCell cX kX) := by rw [← hT1]; exact State.heap_pushCell_size _ _
  have d3' : decode c.code (pc + 3) = .ok (.dup, 1) := by rw [hb]; exact d3
  have d4' : decode c.code (pc + 4) = .ok (.ldc is, 2) := by rw [hb]; exact d4
  have hstr' : vk_R own is text sa s' := vk_R.warm hW0 hstr
  obtain ⟨U, hsteps, hrun, hend, hW, hsame, ce, hce, hO⟩ := X₁.ctorThrowS hexec htr (own := own) (cls := cls) (names := names) (ic := ic) hown' hcls hnames h (fun x hx => nomatch hx) hfX hkX hcellA (by rw [hhp, hT]; exact Nat.le_refl _) (msg := .ref sa) rfl
    (g := { method := m, pc := pc + 6, locals := ls, stack := .ref sa :: .ref T.heap.size :: .ref T.heap.size :: rest, locked := none }) rfl hsize rfl rfl (rest := rest) rfl
    (by rw [hb]; exact d6) (by rw [hb]; exact d9) hout hRframes (by simp only [List.map_cons, List.sum_cons, hcat]; omega) hlocks
  obtain ⟨f1, f2⟩ := vx_frame hsame
  rw [hhp] at f1 f2
  have hWs : s.WarmedH U.vm := State.WarmedH.trans hW0 hW
  have hcl : s.vm.findClass cls = some ce.cls := by
    have h9 := hO.cls
    rw [hvm] at h9
    exact h9
  have hall : s.sameButNew ({ U with vm := s.vm } : State) locs mc ms := by
    subst hA
    obtain ⟨e1, e2⟩ := hsame
    rw [State.setFrames_setFrames] at e1
    have h2 : (T.setVm s.vm).sameButNew ({ U with vm := s.vm } : State) [] (0 + 1) (0 + 6) := ⟨e1, e2⟩
    have h3 := X.same.trans h2
    rw [List.append_nil] at h3
    exact h3.mono hc hs
  refine ⟨U, ?_, .threw T.heap.size, hrun, hend, Or.inr ⟨T.heap.size, rfl, cls, ce, locs, hx U hWs.alike f1 (fun q hq => f2 q hq (fun z hz => nomatch hz)), hce, hO.vm, hcl, hWs, hall, hf⟩⟩
  refine st1 _ ?_
  show Steps p.tables e below (T1.setTop { method := m, pc := pc + 3, locals := ls, stack := .ref T.heap.size :: rest, locked := none }) _
  jvm_step X₁.here [X₁.here.top, hexec, d3', Value.category]
  exact X₁.ldcString hexec (own := own) (text := text) (index := is) (a := sa) hown' hstr'.1 hstr'.2
    (g := { method := m, pc := pc + 4, locals := ls, stack := .ref T.heap.size :: .ref T.heap.size :: rest, locked := none }) rfl d4' _ hsteps
/-- 'throw new E("text")', the text by a wide index -/
theorem vx_throwSW {cc : ByteArray} {pc : Nat} (hexec : p.tables.exec = Jvm.exec) (hb : c.code = cc) (hl : l.stackTraces = false) {own cls text : String} {names : List String} {ik is ic mc ms sa : Nat} {A : Nat → Prop}
    (hown : s.vm.findClass own = some m.cls) (hcls : Bundle.fit cls = true) (hnames : ∀ n ∈ names, Bundle.fit n = true)
    (hk : (Cond.classLink own ik cls).before args s = true) (hini : (Cond.initialized cls).before args s = true) (hstr : vk_R own is text sa s) (hat : ∀ w ∈ vx_atS own ic cls names, w.before args s = true)
    (hgood : ∀ w ∈ Cond.classLink own ik cls :: Cond.initialized cls :: vx_atS own ic cls names, vx_ot w = true)
    (hU : vx_Zq Bundle.tN "UNASSIGNED_STACK" Bundle.steD A s s.heap) (hN : vx_Zq Bundle.tN "SUPPRESSED_SENTINEL" Bundle.listD A s s.heap) (hS : va_S A s.heap H locs) (hsize : ls.size = c.maxLocals)
    (d0 : decode cc pc = .ok (.new ik, 3)) (d3 : decode cc (pc + 3) = .ok (.dup, 1)) (d4 : decode cc (pc + 4) = .ok (.ldc_w is, 3)) (d7 : decode cc (pc + 7) = .ok (.invokespecial ic, 3)) (d10 : decode cc (pc + 10) = .ok (.athrow, 1))
    (hout : ∀ x ∈ c.exceptionTable.toList, covers x (pc + 10) = false)
    (hRframes : names.length + 3 < R.frames) (hRlocals : (rest.map fun v => v.category).sum + (13 * (names.length + 1) + 43) ≤ R.locals) (hRcells : cells + 1 ≤ R.cells) (hRslots : slots + 6 ≤ R.slots) (hlocks : meth.locks = false)
    (hx : ∀ t : State, s.vm.Alike t.vm → H.size ≤ t.heap.size → (∀ q : Nat, q < H.size → t.heap[q]? = H[q]?) → XC cls s t)
    (hf : ∀ z ∈ locs, free z.base) (hc : cells + 1 ≤ mc) (hs : slots + 6 ≤ ms) :
    W p l e R s m args below meth c H locs cells slots (vx_MQ below Qc XC args s mc ms free) (F0 m pc ls rest) := by
  intro T hT X
  have htr : e.platform.stackTraces = false := (show e.platform.stackTraces = l.stackTraces by rw [X.admits.platform]).trans hl
  have Y := vx_rebase X (R' := { frames := R.frames, locals := R.locals, cells := 1, slots := 6 }) (Nat.le_refl _) (Nat.le_refl _) hRcells hRslots
  obtain ⟨s', hA⟩ : ∃ z, z = (T.setVm s.vm).setFrames (.invoking m args :: below) := ⟨_, rfl⟩
  rw [← hA] at Y
  have hvm : s'.vm = s.vm := by rw [hA]; rfl
  have hhp : s'.heap = H := by rw [hA]; exact hT
  have hW0 : s.WarmedH s'.vm := by rw [hvm]; exact State.WarmedH.refl s
  have hat' : ∀ w ∈ vx_atS own ic cls names, w.before args s' = true := fun w hw => vx_ot_at hW0 hvm.symm (hgood w (List.mem_cons_of_mem _ (List.mem_cons_of_mem _ hw))) (hat w hw)
  have hk' : (Cond.classLink own ik cls).before args s' = true := vx_ot_at hW0 hvm.symm (hgood _ List.mem_cons_self) hk
  have hini' : (Cond.initialized cls).before args s' = true := vx_ot_at hW0 hvm.symm (hgood _ (List.mem_cons_of_mem _ List.mem_cons_self)) hini
  have hU' : vx_Zq Bundle.tN "UNASSIGNED_STACK" Bundle.steD A s' s'.heap := by rw [hhp]; exact vx_Zq.moved hW0.alike (hU.kept hS.2.1)
  have hN' : vx_Zq Bundle.tN "SUPPRESSED_SENTINEL" Bundle.listD A s' s'.heap := by rw [hhp]; exact vx_Zq.moved hW0.alike (hN.kept hS.2.1)
  have h : ∀ w ∈ Bundle.ownAtoms own ic cls names, w.before args s' = true := vx_own hat' (vx_isRefq hU'.1) (vx_isRefq hN'.1) hU'.2.word hN'.2.word
  have hown' : s'.vm.findClass own = some m.cls := by rw [hvm]; exact hown
  have hins : (Cond.instantiable cls 6).before args s' = true := h _ (by simp [Bundle.ownAtoms])
  obtain ⟨vm₁, cX, kX, hfX, hkX, -, -, X₁, st1⟩ := Y.newCold hexec (own := own) (C := cls) (index := ik) (n := 6) hown' hk' hins hini'
    (g := F0 m pc ls rest) rfl (by rw [hb]; exact d0) (Nat.le_refl _) (Nat.le_refl _)
  generalize hT1 : (T.setVm vm₁).pushCell { cls := cX, slots := kX.instanceTypes.map defaultValue, vm := .none } = T1 at X₁ st1
  have hcat : (Value.ref T.heap.size).category = 1 := rfl
  have hcellA : T1.heap[T.heap.size]? = some (freshCell cX kX) := by rw [← hT1]; exact State.heap_pushCell_size _ _
  have d3' : decode c.code (pc + 3) = .ok (.dup, 1) := by rw [hb]; exact d3
  have d4' : decode c.code (pc + 4) = .ok (.ldc_w is, 3) := by rw [hb]; exact d4
  have hstr' : vk_R own is text sa s' := vk_R.warm hW0 hstr
  obtain ⟨U, hsteps, hrun, hend, hW, hsame, ce, hce, hO⟩ := X₁.ctorThrowS hexec htr (own := own) (cls := cls) (names := names) (ic := ic) hown' hcls hnames h (fun x hx => nomatch hx) hfX hkX hcellA (by rw [hhp, hT]; exact Nat.le_refl _) (msg := .ref sa) rfl
    (g := { method := m, pc := pc + 7, locals := ls, stack := .ref sa :: .ref T.heap.size :: .ref T.heap.size :: rest, locked := none }) rfl hsize rfl rfl (rest := rest) rfl
    (by rw [hb]; exact d7) (by rw [hb]; exact d10) hout hRframes (by simp only [List.map_cons, List.sum_cons, hcat]; omega) hlocks
  obtain ⟨f1, f2⟩ := vx_frame hsame
  rw [hhp] at f1 f2
  have hWs : s.WarmedH U.vm := State.WarmedH.trans hW0 hW
  have hcl : s.vm.findClass cls = some ce.cls := by
    have h9 := hO.cls
    rw [hvm] at h9
    exact h9
  have hall : s.sameButNew ({ U with vm := s.vm } : State) locs mc ms := by
    subst hA
    obtain ⟨e1, e2⟩ := hsame
    rw [State.setFrames_setFrames] at e1
    have h2 : (T.setVm s.vm).sameButNew ({ U with vm := s.vm } : State) [] (0 + 1) (0 + 6) := ⟨e1, e2⟩
    have h3 := X.same.trans h2
    rw [List.append_nil] at h3
    exact h3.mono hc hs
  refine ⟨U, ?_, .threw T.heap.size, hrun, hend, Or.inr ⟨T.heap.size, rfl, cls, ce, locs, hx U hWs.alike f1 (fun q hq => f2 q hq (fun z hz => nomatch hz)), hce, hO.vm, hcl, hWs, hall, hf⟩⟩
  refine st1 _ ?_
  show Steps p.tables e below (T1.setTop { method := m, pc := pc + 3, locals := ls, stack := .ref T.heap.size :: rest, locked := none }) _
  jvm_step X₁.here [X₁.here.top, hexec, d3', Value.category]
  exact X₁.ldcStringW hexec (own := own) (text := text) (index := is) (a := sa) hown' hstr'.1 hstr'.2
    (g := { method := m, pc := pc + 4, locals := ls, stack := .ref T.heap.size :: .ref T.heap.size :: rest, locked := none }) rfl d4' _ hsteps
end Ends
section Bodies
variable {l : Launch}
theorem vx_ofW {y : MethodName} {ws ws' : List Cond} {rm : Room} {Pc : Array Value → State → Prop} {Qc : Array Value → State → Outcome → State → Prop} {XC : String → State → State → Prop} {mc ms : Nat} {free : Addr → Prop} {cc : ByteArray} {maxL : Nat} {ret : Option FieldType}
    (hy : plainName y.cls = true) (hw : ws = Cond.code y cc maxL ret :: ws')
    (body : ∀ p e s m args below meth c s₁, BodyLoose p l y (headSpec ws rm) cc maxL ret e s m args below meth c s₁ → c.maxLocals = maxL → (∀ x ∈ c.exceptionTable.toList, False) → Pc args s →
      W p l e (headSpec ws rm).room s m args below meth c s.heap [] 0 0 (vx_MQ below Qc XC args s mc ms free) (entryFrame m args maxL)) : vx_Met l y ws rm Pc Qc XC mc ms free := by
  refine MetFree.of_bodyS (code := cc) (maxLocals := maxL) (ret := ret) hy ?_ ?_
  · intro args s m h hn
    obtain ⟨meth, c, h1, h2, h3, h4, h5, h6, -, -⟩ := Cond.code_spec hn (atoms_spec (ws := ws) h _ (by rw [hw]; exact List.mem_cons_self))
    exact ⟨meth, c, h1, h2, h3, h4, h5, h6⟩
  · intro p e s m args below meth c s₁ B hml hP _
    have hh0 : s₁.heap = s.heap := by rw [B.state]; rfl
    have ht : ∀ x ∈ c.exceptionTable.toList, False := by
      obtain ⟨meth9, c9, h1, h2, -, -, -, -, h7, -⟩ := Cond.code_spec B.named (atoms_spec (ws := ws) B.pre _ (by rw [hw]; exact List.mem_cons_self))
      cases Option.some.inj (h1.symm.trans B.method)
      cases Option.some.inj (h2.symm.trans (Stand.of_body B).code)
      intro x hx
      rw [Array.isEmpty_iff.mp h7] at hx
      cases hx
    obtain ⟨t, a1, o, b1, b2, b3⟩ := body p e s m args below meth c s₁ B hml ht hP s₁ hh0 (Stand.of_body B)
    exact ⟨t, o, a1, b1, b2, b3⟩
/-- the table of a body with handlers -/
theorem vx_table {p : Program} {x y : MethodName} {S : Spec} {cc bytes : ByteArray} {maxL maxL' : Nat} {ret ret' : Option FieldType} {e : Env} {s s₁ : State} {m : MethodId} {args : Array Value} {below : List Frame} {meth : Method} {c : Code} {hh : List (Nat × Nat × Nat × Nat)}
    (B : BodyLoose p l y S cc maxL ret e s m args below meth c s₁) (h : (Cond.codeWith y bytes maxL' ret' hh).before args s = true) : c.exceptionTable.toList = tableOf hh := by
  obtain ⟨m9, meth9, c9, hn9, h1, h2, -, -, h6, -⟩ := Cond.codeWith_spec h
  cases Option.some.inj (hn9.symm.trans B.named)
  cases Option.some.inj (h1.symm.trans B.method)
  cases Option.some.inj (h2.symm.trans (Stand.of_body B).code)
  rw [← h6, table_eq]
end Bodies
end VXA
/-! ===== END ===== -/
/-! ===== BEGIN a static call of a method with an exception table ===== -/
section VXS
variable {p : Program} {l : Launch} {e : Env} {R : Room} {s : State} {m : MethodId} {args : Array Value} {below : List Frame} {meth : Method} {c : Code} {T : State} {H : Heap} {locs : List Loc} {cells slots : Nat}
abbrev vx_CSW (R : Room) (s : State) (args : Array Value) (own : String) (index : Nat) (y : MethodName) (bytes : ByteArray) (maxL : Nat) (ret : Option FieldType) (hh : List (Nat × Nat × Nat × Nat)) (ws : List Cond) (rm : Room) (mc ms n : Nat) : Prop :=
  (rm.cells = mc ∧ rm.slots = ms ∧ rm.frames + 1 ≤ R.frames ∧ 8 + (maxL + 11) + rm.locals ≤ R.locals ∧ (∀ w ∈ ws, ∀ (a' : Array Value) (U : State), s.WarmedH U.vm → w.before a' U = true) ∧ Cond.codeWith y bytes maxL ret hh ∈ ws) ∧
  (Cond.codeWith y bytes maxL ret hh).before args s = true ∧ (Cond.initialized y.cls).before args s = true ∧ (y.cls ≠ "java/lang/invoke/MethodHandle" ∧ y.cls ≠ "java/lang/invoke/VarHandle") ∧
  (∀ sig, parseMethodDescriptor y.desc = some sig → n = sig.parameters.length) ∧ (Cond.methodLink own index y).before args s = true ∧ (Cond.static y).before args s = true
theorem vx_cwSW {own : String} {index maxL mc ms : Nat} {y : MethodName} {bytes : ByteArray} {ret : Option FieldType} {hh : List (Nat × Nat × Nat × Nat)} {Ts ws ws' : List Cond} {rm : Room} (n : Nat) (ht : ∀ w ∈ Ts, w.before args s = true) (hT : GoodIn Ts (va_wsS own index y ws)) (hw : ws = Cond.codeWith y bytes maxL ret hh :: ws') (hrc : rm.cells = mc) (hrs : rm.slots = ms)
    (hd : y.cls ≠ "java/lang/invoke/MethodHandle" ∧ y.cls ≠ "java/lang/invoke/VarHandle" ∧ (parseMethodDescriptor y.desc).map (fun d => d.parameters.length) = some n) (hR : rm.frames + 1 ≤ R.frames ∧ 8 + (maxL + 11) + rm.locals ≤ R.locals) :
    vx_CSW R s args own index y bytes maxL ret hh ws rm mc ms n := by
  have ok : ∀ w ∈ va_wsS own index y ws, w.before args s = true := fun w h => ht w (hT w h).1
  have hG : GoodIn Ts ws := fun w h => hT w (by unfold va_wsS; exact List.mem_append_right _ h)
  have hc : Cond.codeWith y bytes maxL ret hh ∈ ws := by rw [hw]; exact List.mem_cons_self
  refine ⟨⟨hrc, hrs, hR.1, hR.2, pay_in ht hG, hc⟩, ht _ (hG _ hc).1, ok _ (by simp [va_wsS]), ⟨hd.1, hd.2.1⟩, fun sig h => ?_, ok _ (by simp [va_wsS]), ok _ (by simp [va_wsS])⟩
  have h2 := hd.2.2
  rw [h] at h2
  exact (Option.some.inj h2).symm
theorem vx_callSW (X : Stand p l e R s m args below meth c T locs cells slots) (hexec : p.tables.exec = Jvm.exec) {own : String} {index : Nat} {y : MethodName} {bytes : ByteArray} {maxL : Nat} {ret : Option FieldType} {hh : List (Nat × Nat × Nat × Nat)}
    (hown : s.vm.findClass own = some m.cls) (hlink : (Cond.methodLink own index y).before args s = true) (hstat : (Cond.static y).before args s = true) (hinit : (Cond.initialized y.cls).before args s = true)
    (hcode : (Cond.codeWith y bytes maxL ret hh).before args s = true) (hy : y.cls ≠ "java/lang/invoke/MethodHandle" ∧ y.cls ≠ "java/lang/invoke/VarHandle")
    {W9 : Nat} {Pre : Pt → Array Value → Prop} {Post : Pt → Array Value → Option Value → Pt → Prop} (hK : Back l R p e below s args y 3 W9 Pre Post)
    {g : JFrame} (hg : g.method = m) (hsize : g.locals.size = c.maxLocals) {argsL rest : List Value} (hlen : ∀ sig, parseMethodDescriptor y.desc = some sig → argsL.length = sig.parameters.length)
    (hstack : g.stack = argsL.reverse ++ rest) (hW : 2 * g.monitorRoom + (rest.map fun v => v.category).sum ≤ W9) (hdg : decode c.code g.pc = .ok (.invokestatic index, 3))
    (hpre : ∀ vm₁, s.WarmedH vm₁ → Pre ⟨T.setVm vm₁, locs, cells, slots⟩ argsL.toArray) :
    ∃ (v : Option Value) (vm₁ : Vm) (B : Pt), s.WarmedH vm₁ ∧ Stand p l e R s m args below meth c B.U B.locs B.cells B.slots ∧ Post ⟨T.setVm vm₁, locs, cells, slots⟩ argsL.toArray v B ∧
      ∀ target, Steps p.tables e below (B.U.setTop { g with pc := g.pc + 3, stack := v.toList ++ rest }) target → Steps p.tables e below (T.setTop g) target := by
  obtain ⟨mk, methM, cM, hnamed, hmethM, -, -, -, -, -, -, hsigM⟩ := Cond.codeWith_spec hcode
  have hstatic : methM.isStatic = true := Cond.static_spec hnamed hmethM hstat
  obtain ⟨kP, hkP, -⟩ := className_of_methodNamed hnamed
  have hinitP : kP.init = .initialized := Cond.initialized_spec (findClass_of_methodNamed hnamed) hkP hinit
  obtain ⟨vm₁, X₁, hstep₁⟩ := X.invokestatic hexec hown hlink hnamed hmethM hstatic hkP hinitP hy (g := g) hg (argsL := argsL) (rest := rest) (hlen _ hsigM) hstack hdg
  obtain ⟨v, B, X', hpost, hsteps⟩ := hK m meth c ⟨T.setVm vm₁, locs, cells, slots⟩ { g with stack := rest } (.invokestatic index) mk argsL.toArray X₁ hg hsize hdg hW (X₁.named hnamed) (hpre vm₁ X₁.warmed)
  exact ⟨v, vm₁, B, X₁.warmed, X', hpost, fun target h => hstep₁ _ fun acts => by rw [doInvoke_state]; exact hsteps.trans h⟩
theorem vx_runSW {y : MethodName} {bytes cc : ByteArray} {maxL nL mc ms n index : Nat} {ret : Option FieldType} {hh : List (Nat × Nat × Nat × Nat)} {ws : List Cond} {rm : Room} {Pc : Array Value → State → Prop} {Qc : Array Value → State → Outcome → State → Prop} {free : Addr → Prop} {Ts : List Cond} {own : String} {As rest : List Value} {g : JFrame}
    (S : CallFix p m c cc nL s args Ts own) (hM : Met l y ws rm Pc Qc mc ms free) (cw : vx_CSW R s args own index y bytes maxL ret hh ws rm mc ms n) (hp : PreS s H Pc As)
    (hg : g.method = m) (hn : As.length = n) (hsize : g.locals.size = nL) (hstack : g.stack = As.reverse ++ rest) (hW : 2 * g.monitorRoom + (rest.map fun v => v.category).sum ≤ 8) (hdg : decode cc g.pc = .ok (.invokestatic index, 3)) (hf : cells + mc ≤ R.cells ∧ slots + ms ≤ R.slots) :
    va_Run p l e R s m args below meth c H locs cells slots mc ms g rest (Qc As.toArray) (free) := by
  obtain ⟨⟨hrc, hrs, hfr, hlo, hws, hcw⟩, hcode, hini, hy, hlen, hl, hstt⟩ := cw
  have hK : Back l R p e below s args y 3 8 (PreOf R mc ms Pc) (PostOf Qc mc ms free) := va_backW (hh := hh) (bytes := bytes) (maxL := maxL) (ret := ret) hM hp.1 hrc hrs hfr hlo hws hcw (fun a' U hW => word_at hW (Or.inl (by first | rfl | simp [Cond.onTables, Cond.keeps, Cond.steady])) hini)
  obtain ⟨hx, hb, hml, ho, -⟩ := S
  intro T hT X
  obtain ⟨v, vm₁, ⟨U', l2, c2, s2⟩, hW₁, X', ⟨g', mk, t, L, e1, e2, hq, h1, hL, h2, h3⟩, st⟩ := vx_callSW X hx (hh := hh) (bytes := bytes) (maxL := maxL) (ret := ret) ho hl hstt hini hcode hy hK hg (hsize.trans hml.symm) (argsL := As) (rest := rest) (fun sig h => hn.trans (hlen sig h)) hstack hW (by rw [hb]; exact hdg)
    (fun vm₁ hW₁ => ⟨hf.1, hf.2, hp.2 (T.setVm vm₁) hT hW₁⟩)
  dsimp only [Pt.U, Pt.locs, Pt.cells, Pt.slots] at X' e1 e2 h1 h2 h3 st
  subst h1; subst h2; subst h3
  exact ⟨v, (T.setVm vm₁).calling g' mk As.toArray, t, U', L, hT, X', hL, e1, e2, hq, st⟩
/-- not caught here, past rows that name other classes: it goes on to the caller -/
theorem vx_outP {p : Program} {l : Launch} {e : Env} {R : Room} {s : State} {m : MethodId} {args : Array Value} {below : List Frame} {meth : Method} {c : Code} {H : Heap} {locs : List Loc} {cells slots : Nat} {free : Addr → Prop} {ls : Array Slot} {rest : List Value} {Qc : Array Value → State → Outcome → State → Prop} {XC : String → State → State → Prop}
    {pc : Nat} {own E : String} {ce : Cell} {q : Addr} {mc ms : Nat} (hown : s.vm.findClass own = some m.cls) (hlocks : meth.locks = false)
    (hpass : ∀ z ∈ c.exceptionTable.toList, covers z pc = false ∨ (z.catchType ≠ 0 ∧ ∃ nm : String, (Cond.classLink own z.catchType nm).before args s = true ∧ va_Nc E nm s)) (hcell : H[q]? = some ce) (hv : ce.vm = .none) (hcl : s.vm.findClass E = some ce.cls)
    (hx : ∀ t : State, t.heap = H → s.vm.Alike t.vm → XC E s t) (hf : ∀ z ∈ locs, free z.base) (hc : cells ≤ mc) (hs : slots ≤ ms) :
    vx_W p l e R s m args below meth c H locs cells slots (vx_MQ below Qc XC args s mc ms free) (F0 m pc ls rest) q := by
  intro T hT X
  have hpl : e.platform.magicAccessors = ({} : Platform).magicAccessors := by rw [X.admits.platform]
  obtain ⟨vm', hW', X', st⟩ := X.outThrough hlocks q (g := F0 m pc ls rest) rfl rfl rfl (cell := ce) (by rw [hT]; exact hcell) (by rw [hv]; rfl)
    (by obtain ⟨k9, h9, -⟩ := Vm.findClass_spec hcl; exact ⟨k9, h9⟩) (fun z hz => by
      rcases hpass z hz with h | ⟨hz0, nm, hl1, hn1⟩
      · exact Or.inl h
      · obtain ⟨c6, hc6, hcl6⟩ := Cond.classLink_spec hown hl1 e.platform hpl
        obtain ⟨a8, b8, h1, h2, h3⟩ := hn1
        cases Option.some.inj (h1.symm.trans hcl)
        cases Option.some.inj (h2.symm.trans hc6)
        exact Or.inr ⟨hz0, _, hcl6, h3⟩)
  obtain ⟨g₀, hfr⟩ := X'.frames_eq
  have hcell9 : ((T.setVm vm').setFrames (.throwing q :: below)).heap[q]? = some ce := by
    show T.heap[q]? = some ce
    rw [hT]; exact hcell
  have hend : Ended ((T.setVm vm').setFrames (.throwing q :: below)) below (.threw q) := State.frames_setFrames _ (State.cur_lt_of_frames hfr)
  refine ⟨(T.setVm vm').setFrames (.throwing q :: below), ?_, .threw q, X'.here.running, hend, Or.inr ⟨q, rfl, E, ce, locs, hx _ hT (X'.ends _).1.alike, hcell9, hv, hcl, (X'.ends _).1, (X'.ends _).2.mono hc hs, hf⟩⟩
  rw [X.pushThrowing_eq]
  exact st
/-- a thing of a world lies in the heap -/
theorem vx_lt {D : va_G} {cl : List vw_C} {ws : va_W} {H1 : Heap} (h : va_P D cl ws H1) {k : Nat} {q : Nat × va_E} (hk : ws[k]? = some q) : q.1 < H1.size := (h k q hk).lt
end VXS
/-! ===== END ===== -/
/-! ===== BEGIN methods with a table of their own: called by a name, returning or throwing ===== -/
section VXH
/-! vx_backW, vx_callVX, vx_callSX, vx_callVW, vx_runVW, vx_runVX, vx_runSX, vx_ofWH follow the same proofs as their sisters above (Free/Laws.lean, Shelf42/LK1.lean); vx_outP calls Shelf42/NT130.lean (outThrough). -/
section
variable {l : Launch} {R : Room} {p : Program} {e : Env} {below : List Frame} {s : State} {sargs : Array Value} {y : MethodName} {len W9 : Nat}
theorem vx_backW {ws : List Cond} {rm : Room} {Pc : Array Value → State → Prop} {Qc : Array Value → State → Outcome → State → Prop} {XC : String → State → State → Prop} {mc ms : Nat} {free : Addr → Prop} {bytes : ByteArray} {maxL : Nat} {ret : Option FieldType} {hh : List (Nat × Nat × Nat × Nat)}
    (hM : vx_Met l y ws rm Pc Qc XC mc ms free) (hblind : FrameBlind Pc) (hrc : rm.cells = mc) (hrs : rm.slots = ms)
    (hframes : rm.frames + 1 ≤ R.frames) (hlocals : W9 + (maxL + 11) + rm.locals ≤ R.locals)
    (hws : ∀ w ∈ ws, ∀ a' U, s.WarmedH U.vm → w.before a' U = true) (hcode : Cond.codeWith y bytes maxL ret hh ∈ ws) (hinit : ∀ a' U, s.WarmedH U.vm → (Cond.initialized y.cls).before a' U = true) :
    vx_Back l R p e below s sargs y len W9 (PreOf R mc ms Pc) (PostOf Qc mc ms free) (vx_Post XC mc ms free) := by
  intro m meth c A g ig mk a X hg hsize hdg hW hn hp
  have h1 : (headSpec ws rm).pre.before a A.U = true := atoms_intro fun w hw => hws w hw _ _ X.warmed
  have h2 : (Cond.codeWith y bytes maxL ret hh).before a A.U = true := hws _ hcode _ _ X.warmed
  have h3 : (Cond.initialized y.cls).before a A.U = true := hinit _ _ X.warmed
  have h4 : A.cells + (headSpec ws rm).room.cells ≤ R.cells := by rw [show (headSpec ws rm).room.cells = mc from hrc]; exact hp.1
  have h5 : A.slots + (headSpec ws rm).room.slots ≤ R.slots := by rw [show (headSpec ws rm).room.slots = ms from hrs]; exact hp.2.1
  have hPc : Pc a (A.U.calling g mk a) := hblind _ _ _ _ hp.2.2
  obtain ⟨U, Ls, c0, s0⟩ := A
  dsimp only [Pt.U, Pt.locs, Pt.cells, Pt.slots] at h1 h2 h3 h4 h5 X hn hPc ⊢
  obtain ⟨m9, methY, cY, hn9, hmY, hcY, -, hlY, -⟩ := Cond.codeWith_spec h2
  cases Option.some.inj (hn9.symm.trans hn)
  obtain ⟨kY, hkY, -⟩ := className_of_methodNamed hn
  have hinitY : kY.init = .initialized := Cond.initialized_spec (findClass_of_methodNamed hn) hkY h3
  have h : At U g.method c below := by rw [hg]; exact X.here
  have hlocals9 : W9 + (maxL + 11) + (headSpec ws rm).room.locals ≤ R.locals := hlocals
  have happ : (headSpec ws rm).appliesLoose y e.platform (U.calling g mk a) = true :=
    Spec.appliesLoose_calling (g := g) h hdg hn hkY hinitY
      (X.room_calling (g := g) (R' := (headSpec ws rm).room) hsize hmY hcY hframes (by rw [hlY]; omega) h4 h5) h1
  obtain ⟨mid, hmid⟩ := h.above
  have hfr : (U.setTop g).frames = (.java g :: mid) ++ below := by rw [State.frames_setTop' g h.top, hmid]; rfl
  obtain ⟨o, s₂, hsteps, -, hend, hq⟩ := Steps.callFree hM p X.admits X.cas X.clock (acts := []) hfr happ hPc trivial
  have hq' : vx_Q Qc XC mc ms free a (U.calling g mk a) o s₂ := hq
  rw [State.frames_setTop' g h.top] at hend
  obtain ⟨g₀, hg0⟩ := Option.isSome_iff_exists.mp h.top
  obtain ⟨r, hr⟩ := State.topJava?_eq_some.mp hg0
  have hr' : (({ U with heap := s₂.heap, slotsUsed := s₂.slotsUsed } : State).setVm s₂.vm).frames = .java g₀ :: r := hr
  rcases hq' with ⟨hqc, L, hfe, hL⟩ | ⟨q, rfl, E, ce, L, hx, hce, hcv, hcl, hW₂, hsm, hL⟩
  · obtain ⟨⟨v, rfl⟩, hW₂, e2, q2, q3, q4, q5, q6⟩ := id hfe
    have e3 : s₂ = ({ (U.calling g mk a).setFrames s₂.frames with heap := s₂.heap, slotsUsed := s₂.slotsUsed } : State).setVm s₂.vm := by
      have : s₂ = ({ s₂ with vm := (U.calling g mk a).vm } : State).setVm s₂.vm := rfl
      rw [e2] at this
      exact this
    obtain ⟨c₂, i₂, len₂, hc₂, hd₂, hf₂⟩ := hend
    have hW' : U.WarmedH s₂.vm := hW₂
    have hcc : c₂ = c := by
      have h1 : s₂.code? g.method = U.code? g.method := by
        rw [State.code?_eq, State.code?_eq, hW'.alike.method?]
      exact Option.some.inj (hc₂.symm.trans (h1.trans h.code))
    subst hcc
    have hlen : len₂ = len := by rw [hdg] at hd₂; cases hd₂; rfl
    subst hlen
    have hs₂ : s₂ = (({ U with heap := s₂.heap, slotsUsed := s₂.slotsUsed } : State).setVm s₂.vm).setTop { g with pc := g.pc + len₂, stack := v.toList ++ g.stack } := by
      refine e3.trans ?_
      rw [hf₂, State.calling_eq h.top, State.setFrames_setFrames, State.setTop_of_frames _ hr', hr]
      rfl
    have hsame : U.sameButNew ({ U with heap := s₂.heap, slotsUsed := s₂.slotsUsed } : State) L mc ms := by
      refine ⟨?_, q2, q3, q4, q5, q6⟩
      obtain ⟨t, ht, -⟩ := State.frames_cons hr
      show ({ U with heap := s₂.heap, slotsUsed := s₂.slotsUsed } : State) = { U.setFrames U.frames with heap := s₂.heap, slotsUsed := s₂.slotsUsed }
      rw [State.setFrames_self ht]
    subst hg
    refine Or.inl ⟨v, ⟨(({ U with heap := s₂.heap, slotsUsed := s₂.slotsUsed } : State).setVm s₂.vm), Ls ++ L, c0 + mc, s0 + ms⟩,
      ⟨X.admits, X.cas, X.clock, X.frames, X.room, X.hears, X.method, X.code, (X.here.setHeapUsed s₂.heap s₂.slotsUsed).setVm hW'.alike, X.tail, State.WarmedH.trans X.warmed hW', X.limits, X.bytes, X.same.trans (hsame.setVm s.vm)⟩,
      ⟨g, mk, s₂, L, rfl, rfl, hqc, rfl, hL, rfl, rfl⟩, ?_⟩
    show Steps p.tables e below _ ((({ U with heap := s₂.heap, slotsUsed := s₂.slotsUsed } : State).setVm s₂.vm).setTop { g with pc := g.pc + len₂, stack := v.toList ++ g.stack })
    rw [← hs₂]
    exact hsteps
  · obtain ⟨e2, q2, q3, q4, q5, q6⟩ := id hsm
    have e3 : s₂ = ({ (U.calling g mk a).setFrames s₂.frames with heap := s₂.heap, slotsUsed := s₂.slotsUsed } : State).setVm s₂.vm := by
      have : s₂ = ({ s₂ with vm := (U.calling g mk a).vm } : State).setVm s₂.vm := rfl
      rw [e2] at this
      exact this
    have hf₂ : s₂.frames = .throwing q :: .java g :: U.frames.tail := hend
    have hW' : U.WarmedH s₂.vm := hW₂
    have hs₂ : s₂ = ((({ U with heap := s₂.heap, slotsUsed := s₂.slotsUsed } : State).setVm s₂.vm).setTop g).pushFrame (.throwing q) := by
      refine e3.trans ?_
      rw [hf₂, State.calling_eq h.top, State.setFrames_setFrames, State.pushFrame, State.frames_setTop _ hr', State.setTop_of_frames _ hr', State.setFrames_setFrames, hr]
      rfl
    have hsame : U.sameButNew ({ U with heap := s₂.heap, slotsUsed := s₂.slotsUsed } : State) L mc ms := by
      refine ⟨?_, q2, q3, q4, q5, q6⟩
      obtain ⟨t, ht, -⟩ := State.frames_cons hr
      show ({ U with heap := s₂.heap, slotsUsed := s₂.slotsUsed } : State) = { U.setFrames U.frames with heap := s₂.heap, slotsUsed := s₂.slotsUsed }
      rw [State.setFrames_self ht]
    subst hg
    refine Or.inr ⟨q, ⟨(({ U with heap := s₂.heap, slotsUsed := s₂.slotsUsed } : State).setVm s₂.vm), Ls ++ L, c0 + mc, s0 + ms⟩,
      ⟨X.admits, X.cas, X.clock, X.frames, X.room, X.hears, X.method, X.code, (X.here.setHeapUsed s₂.heap s₂.slotsUsed).setVm hW'.alike, X.tail, State.WarmedH.trans X.warmed hW', X.limits, X.bytes, X.same.trans (hsame.setVm s.vm)⟩,
      ⟨g, mk, s₂, L, E, ce, rfl, rfl, hx, hce, hcv, hcl, rfl, hL, rfl, rfl⟩, ?_⟩
    show Steps p.tables e below _ (((({ U with heap := s₂.heap, slotsUsed := s₂.slotsUsed } : State).setVm s₂.vm).setTop g).pushFrame (.throwing q))
    rw [← hs₂]
    exact hsteps
end
variable {p : Program} {l : Launch} {e : Env} {R : Room} {s : State} {m : MethodId} {args : Array Value} {below : List Frame} {meth : Method} {c : Code} {T : State} {H : Heap} {locs : List Loc} {cells slots : Nat}
theorem vx_callVX (X : Stand p l e R s m args below meth c T locs cells slots) (hexec : p.tables.exec = Jvm.exec) {own C : String} {index : Nat} {y : MethodName} {bytes : ByteArray} {maxL : Nat} {ret : Option FieldType} {hh : List (Nat × Nat × Nat × Nat)}
    (hown : s.vm.findClass own = some m.cls) (hlink : (Cond.methodLink own index y).before args s = true) (hinst : (Cond.instanceMethod y).before args s = true) (hsel : (Cond.selects C y y).before args s = true)
    (hcode : (Cond.codeWith y bytes maxL ret hh).before args s = true) (hy : y.cls ≠ "java/lang/invoke/MethodHandle" ∧ y.cls ≠ "java/lang/invoke/VarHandle")
    {W9 : Nat} {Pre : Pt → Array Value → Prop} {Post : Pt → Array Value → Option Value → Pt → Prop} {PostX : Pt → Array Value → Addr → Pt → Prop} (hK : vx_Back l R p e below s args y 3 W9 Pre Post PostX)
    {b : Addr} {cellB : Cell} (hcell : T.heap[b]? = some cellB) (hobj : cellB.vm.isStatics = false) (hcls : s.vm.findClass C = some cellB.cls)
    {g : JFrame} (hg : g.method = m) (hsize : g.locals.size = c.maxLocals) {argsL rest : List Value} (hlen : ∀ sig, parseMethodDescriptor y.desc = some sig → argsL.length = sig.parameters.length)
    (hstack : g.stack = argsL.reverse ++ .ref b :: rest) (hW : 2 * g.monitorRoom + (rest.map fun v => v.category).sum ≤ W9) (hdg : decode c.code g.pc = .ok (.invokevirtual index, 3))
    (hpre : ∀ vm₁, s.WarmedH vm₁ → Pre ⟨T.setVm vm₁, locs, cells, slots⟩ (Value.ref b :: argsL).toArray) :
    (∃ (v : Option Value) (vm₁ : Vm) (B : Pt), s.WarmedH vm₁ ∧ Stand p l e R s m args below meth c B.U B.locs B.cells B.slots ∧ Post ⟨T.setVm vm₁, locs, cells, slots⟩ (Value.ref b :: argsL).toArray v B ∧
      ∀ target, Steps p.tables e below (B.U.setTop { g with pc := g.pc + 3, stack := v.toList ++ rest }) target → Steps p.tables e below (T.setTop g) target) ∨
    (∃ (q : Addr) (vm₁ : Vm) (B : Pt), s.WarmedH vm₁ ∧ Stand p l e R s m args below meth c B.U B.locs B.cells B.slots ∧ PostX ⟨T.setVm vm₁, locs, cells, slots⟩ (Value.ref b :: argsL).toArray q B ∧
      Steps p.tables e below (T.setTop g) ((B.U.setTop { g with stack := rest }).pushFrame (.throwing q))) := by
  obtain ⟨mk, methM, hnamed, hmethM, hstM, habM⟩ := Cond.instanceMethod_spec hinst
  obtain ⟨m8, methM', cM, hn8, hmethM', -, -, -, -, -, -, hsigM⟩ := Cond.codeWith_spec hcode
  cases Option.some.inj (hn8.symm.trans hnamed)
  cases hmethM.symm.trans hmethM'
  obtain ⟨c2, r2, m2, q1, q2, q3, q4, kP, hkP, hkPi⟩ := Cond.selects_spec hsel
  cases hcls.symm.trans q1
  cases (State.methodFound?_of_named hnamed hy).symm.trans q2
  cases hnamed.symm.trans q3
  have hselP : selectMethod e.platform s.vm cellB.cls mk = .method mk := by rw [Launch.admits_selectMethod X.admits]; exact q4
  obtain ⟨vm₁, X₁, hstep₁⟩ := X.invokevirtual hexec hown hlink hnamed hmethM hstM hkP hkPi hy (a := b) (cell := cellB) hcell
    (fun z h => by rw [h] at hobj; cases hobj) hselP hmethM habM hkP hkPi (g := g) hg (argsL := argsL) (rest := rest) (hlen _ hsigM) hstack hdg
  rcases hK m meth c ⟨T.setVm vm₁, locs, cells, slots⟩ { g with stack := rest } (.invokevirtual index) mk (Value.ref b :: argsL).toArray X₁ hg hsize hdg hW (X₁.named hnamed) (hpre vm₁ X₁.warmed) with ⟨v, B, X', hpost, hsteps⟩ | ⟨q, B, X', hpost, hsteps⟩
  · exact Or.inl ⟨v, vm₁, B, X₁.warmed, X', hpost, fun target h => hstep₁ _ fun acts => by rw [doInvoke_state]; exact hsteps.trans h⟩
  · exact Or.inr ⟨q, vm₁, B, X₁.warmed, X', hpost, hstep₁ _ fun acts => by rw [doInvoke_state]; exact hsteps⟩
theorem vx_callSX (X : Stand p l e R s m args below meth c T locs cells slots) (hexec : p.tables.exec = Jvm.exec) {own : String} {index : Nat} {y : MethodName} {bytes : ByteArray} {maxL : Nat} {ret : Option FieldType} {hh : List (Nat × Nat × Nat × Nat)}
    (hown : s.vm.findClass own = some m.cls) (hlink : (Cond.methodLink own index y).before args s = true) (hstat : (Cond.static y).before args s = true) (hinit : (Cond.initialized y.cls).before args s = true)
    (hcode : (Cond.codeWith y bytes maxL ret hh).before args s = true) (hy : y.cls ≠ "java/lang/invoke/MethodHandle" ∧ y.cls ≠ "java/lang/invoke/VarHandle")
    {W9 : Nat} {Pre : Pt → Array Value → Prop} {Post : Pt → Array Value → Option Value → Pt → Prop} {PostX : Pt → Array Value → Addr → Pt → Prop} (hK : vx_Back l R p e below s args y 3 W9 Pre Post PostX)
    {g : JFrame} (hg : g.method = m) (hsize : g.locals.size = c.maxLocals) {argsL rest : List Value} (hlen : ∀ sig, parseMethodDescriptor y.desc = some sig → argsL.length = sig.parameters.length)
    (hstack : g.stack = argsL.reverse ++ rest) (hW : 2 * g.monitorRoom + (rest.map fun v => v.category).sum ≤ W9) (hdg : decode c.code g.pc = .ok (.invokestatic index, 3))
    (hpre : ∀ vm₁, s.WarmedH vm₁ → Pre ⟨T.setVm vm₁, locs, cells, slots⟩ argsL.toArray) :
    (∃ (v : Option Value) (vm₁ : Vm) (B : Pt), s.WarmedH vm₁ ∧ Stand p l e R s m args below meth c B.U B.locs B.cells B.slots ∧ Post ⟨T.setVm vm₁, locs, cells, slots⟩ argsL.toArray v B ∧
      ∀ target, Steps p.tables e below (B.U.setTop { g with pc := g.pc + 3, stack := v.toList ++ rest }) target → Steps p.tables e below (T.setTop g) target) ∨
    (∃ (q : Addr) (vm₁ : Vm) (B : Pt), s.WarmedH vm₁ ∧ Stand p l e R s m args below meth c B.U B.locs B.cells B.slots ∧ PostX ⟨T.setVm vm₁, locs, cells, slots⟩ argsL.toArray q B ∧
      Steps p.tables e below (T.setTop g) ((B.U.setTop { g with stack := rest }).pushFrame (.throwing q))) := by
  obtain ⟨mk, methM, cM, hnamed, hmethM, -, -, -, -, -, -, hsigM⟩ := Cond.codeWith_spec hcode
  have hstatic : methM.isStatic = true := Cond.static_spec hnamed hmethM hstat
  obtain ⟨kP, hkP, -⟩ := className_of_methodNamed hnamed
  have hinitP : kP.init = .initialized := Cond.initialized_spec (findClass_of_methodNamed hnamed) hkP hinit
  obtain ⟨vm₁, X₁, hstep₁⟩ := X.invokestatic hexec hown hlink hnamed hmethM hstatic hkP hinitP hy (g := g) hg (argsL := argsL) (rest := rest) (hlen _ hsigM) hstack hdg
  rcases hK m meth c ⟨T.setVm vm₁, locs, cells, slots⟩ { g with stack := rest } (.invokestatic index) mk argsL.toArray X₁ hg hsize hdg hW (X₁.named hnamed) (hpre vm₁ X₁.warmed) with ⟨v, B, X', hpost, hsteps⟩ | ⟨q, B, X', hpost, hsteps⟩
  · exact Or.inl ⟨v, vm₁, B, X₁.warmed, X', hpost, fun target h => hstep₁ _ fun acts => by rw [doInvoke_state]; exact hsteps.trans h⟩
  · exact Or.inr ⟨q, vm₁, B, X₁.warmed, X', hpost, hstep₁ _ fun acts => by rw [doInvoke_state]; exact hsteps⟩
theorem vx_callVW (X : Stand p l e R s m args below meth c T locs cells slots) (hexec : p.tables.exec = Jvm.exec) {own C : String} {index : Nat} {y : MethodName} {bytes : ByteArray} {maxL : Nat} {ret : Option FieldType} {hh : List (Nat × Nat × Nat × Nat)}
    (hown : s.vm.findClass own = some m.cls) (hlink : (Cond.methodLink own index y).before args s = true) (hinst : (Cond.instanceMethod y).before args s = true) (hsel : (Cond.selects C y y).before args s = true)
    (hcode : (Cond.codeWith y bytes maxL ret hh).before args s = true) (hy : y.cls ≠ "java/lang/invoke/MethodHandle" ∧ y.cls ≠ "java/lang/invoke/VarHandle")
    {W9 : Nat} {Pre : Pt → Array Value → Prop} {Post : Pt → Array Value → Option Value → Pt → Prop} (hK : Back l R p e below s args y 3 W9 Pre Post)
    {b : Addr} {cellB : Cell} (hcell : T.heap[b]? = some cellB) (hobj : cellB.vm.isStatics = false) (hcls : s.vm.findClass C = some cellB.cls)
    {g : JFrame} (hg : g.method = m) (hsize : g.locals.size = c.maxLocals) {argsL rest : List Value} (hlen : ∀ sig, parseMethodDescriptor y.desc = some sig → argsL.length = sig.parameters.length)
    (hstack : g.stack = argsL.reverse ++ .ref b :: rest) (hW : 2 * g.monitorRoom + (rest.map fun v => v.category).sum ≤ W9) (hdg : decode c.code g.pc = .ok (.invokevirtual index, 3))
    (hpre : ∀ vm₁, s.WarmedH vm₁ → Pre ⟨T.setVm vm₁, locs, cells, slots⟩ (Value.ref b :: argsL).toArray) :
    ∃ (v : Option Value) (vm₁ : Vm) (B : Pt), s.WarmedH vm₁ ∧ Stand p l e R s m args below meth c B.U B.locs B.cells B.slots ∧ Post ⟨T.setVm vm₁, locs, cells, slots⟩ (Value.ref b :: argsL).toArray v B ∧
      ∀ target, Steps p.tables e below (B.U.setTop { g with pc := g.pc + 3, stack := v.toList ++ rest }) target → Steps p.tables e below (T.setTop g) target := by
  obtain ⟨mk, methM, hnamed, hmethM, hstM, habM⟩ := Cond.instanceMethod_spec hinst
  obtain ⟨m8, methM', cM, hn8, hmethM', -, -, -, -, -, -, hsigM⟩ := Cond.codeWith_spec hcode
  cases Option.some.inj (hn8.symm.trans hnamed)
  cases hmethM.symm.trans hmethM'
  obtain ⟨c2, r2, m2, q1, q2, q3, q4, kP, hkP, hkPi⟩ := Cond.selects_spec hsel
  cases hcls.symm.trans q1
  cases (State.methodFound?_of_named hnamed hy).symm.trans q2
  cases hnamed.symm.trans q3
  have hselP : selectMethod e.platform s.vm cellB.cls mk = .method mk := by rw [Launch.admits_selectMethod X.admits]; exact q4
  obtain ⟨vm₁, X₁, hstep₁⟩ := X.invokevirtual hexec hown hlink hnamed hmethM hstM hkP hkPi hy (a := b) (cell := cellB) hcell
    (fun z h => by rw [h] at hobj; cases hobj) hselP hmethM habM hkP hkPi (g := g) hg (argsL := argsL) (rest := rest) (hlen _ hsigM) hstack hdg
  obtain ⟨v, B, X', hpost, hsteps⟩ := hK m meth c ⟨T.setVm vm₁, locs, cells, slots⟩ { g with stack := rest } (.invokevirtual index) mk (Value.ref b :: argsL).toArray X₁ hg hsize hdg hW (X₁.named hnamed) (hpre vm₁ X₁.warmed)
  exact ⟨v, vm₁, B, X₁.warmed, X', hpost, fun target h => hstep₁ _ fun acts => by rw [doInvoke_state]; exact hsteps.trans h⟩
abbrev vx_CVW (R : Room) (s : State) (args : Array Value) (own C : String) (index : Nat) (y : MethodName) (bytes : ByteArray) (maxL : Nat) (ret : Option FieldType) (hh : List (Nat × Nat × Nat × Nat)) (ws : List Cond) (rm : Room) (mc ms n : Nat) : Prop :=
  (rm.cells = mc ∧ rm.slots = ms ∧ rm.frames + 1 ≤ R.frames ∧ 8 + (maxL + 11) + rm.locals ≤ R.locals ∧ (∀ w ∈ ws, ∀ (a' : Array Value) (U : State), s.WarmedH U.vm → w.before a' U = true) ∧ Cond.codeWith y bytes maxL ret hh ∈ ws) ∧
  (Cond.codeWith y bytes maxL ret hh).before args s = true ∧ (Cond.initialized y.cls).before args s = true ∧ (y.cls ≠ "java/lang/invoke/MethodHandle" ∧ y.cls ≠ "java/lang/invoke/VarHandle") ∧
  (∀ sig, parseMethodDescriptor y.desc = some sig → n = sig.parameters.length) ∧ (Cond.methodLink own index y).before args s = true ∧ (Cond.instanceMethod y).before args s = true ∧ (Cond.selects C y y).before args s = true
theorem vx_cwVW {own C : String} {index maxL mc ms : Nat} {y : MethodName} {bytes : ByteArray} {ret : Option FieldType} {hh : List (Nat × Nat × Nat × Nat)} {Ts ws ws' : List Cond} {rm : Room} (n : Nat) (ht : ∀ w ∈ Ts, w.before args s = true) (hT : GoodIn Ts (wsV own index C y ws)) (hw : ws = Cond.codeWith y bytes maxL ret hh :: ws') (hrc : rm.cells = mc) (hrs : rm.slots = ms)
    (hd : y.cls = C ∧ y.cls ≠ "java/lang/invoke/MethodHandle" ∧ y.cls ≠ "java/lang/invoke/VarHandle" ∧ (parseMethodDescriptor y.desc).map (fun d => d.parameters.length) = some n) (hR : rm.frames + 1 ≤ R.frames ∧ 8 + (maxL + 11) + rm.locals ≤ R.locals) :
    vx_CVW R s args own C index y bytes maxL ret hh ws rm mc ms n := by
  obtain ⟨hC, hd⟩ := hd
  subst hC
  have ok : ∀ w ∈ wsV own index y.cls y ws, w.before args s = true := fun w h => ht w (hT w h).1
  have hG : GoodIn Ts ws := fun w h => hT w (by unfold wsV; exact List.mem_append_right _ h)
  have hc : Cond.codeWith y bytes maxL ret hh ∈ ws := by rw [hw]; exact List.mem_cons_self
  refine ⟨⟨hrc, hrs, hR.1, hR.2, pay_in ht hG, hc⟩, ht _ (hG _ hc).1, ok _ (by simp [wsV]), ⟨hd.1, hd.2.1⟩, fun sig h => ?_, ok _ (by simp [wsV]), ok _ (by simp [wsV]), ok _ (by simp [wsV])⟩
  have h2 := hd.2.2
  rw [h] at h2
  exact (Option.some.inj h2).symm
theorem vx_runVW {y : MethodName} {bytes cc : ByteArray} {maxL nL mc ms n index : Nat} {ret : Option FieldType} {hh : List (Nat × Nat × Nat × Nat)} {ws : List Cond} {rm : Room} {Pc : Array Value → State → Prop} {Qc : Array Value → State → Outcome → State → Prop} {free : Addr → Prop} {Ts : List Cond} {own C : String} {b : Addr} {As rest : List Value} {g : JFrame}
    (S : CallFix p m c cc nL s args Ts own) (hM : Met l y ws rm Pc Qc mc ms free) (cw : vx_CVW R s args own C index y bytes maxL ret hh ws rm mc ms n) (hp : PreV s H C b Pc As)
    (hg : g.method = m) (hn : As.length = n) (hsize : g.locals.size = nL) (hstack : g.stack = As.reverse ++ .ref b :: rest) (hW : 2 * g.monitorRoom + (rest.map fun v => v.category).sum ≤ 8) (hdg : decode cc g.pc = .ok (.invokevirtual index, 3)) (hf : cells + mc ≤ R.cells ∧ slots + ms ≤ R.slots) :
    va_Run p l e R s m args below meth c H locs cells slots mc ms g rest (Qc (Value.ref b :: As).toArray) free := by
  obtain ⟨⟨hrc, hrs, hfr, hlo, hws, hcw⟩, hcode, hini, hy, hlen, hl, hin, hse⟩ := cw
  have hK : Back l R p e below s args y 3 8 (PreOf R mc ms Pc) (PostOf Qc mc ms free) := va_backW (hh := hh) (bytes := bytes) (maxL := maxL) (ret := ret) hM hp.1 hrc hrs hfr hlo hws hcw (fun a' U hW => word_at hW (Or.inl (by first | rfl | simp [Cond.onTables, Cond.keeps, Cond.steady])) hini)
  obtain ⟨hx, hb, hml, ho, -⟩ := S
  obtain ⟨-, ⟨cellB, hcB, hoB, hclB⟩, hPc⟩ := hp
  intro T hT X
  obtain ⟨v, vm₁, ⟨U', l2, c2, s2⟩, hW₁, X', ⟨g', mk, t, L, e1, e2, hq, h1, hL, h2, h3⟩, st⟩ := vx_callVW X hx (C := C) (hh := hh) (bytes := bytes) (maxL := maxL) (ret := ret) ho hl hin hse hcode hy hK (by rw [hT]; exact hcB) hoB hclB hg (hsize.trans hml.symm) (argsL := As) (rest := rest) (fun sig h => hn.trans (hlen sig h)) hstack hW (by rw [hb]; exact hdg)
    (fun vm₁ hW₁ => ⟨hf.1, hf.2, hPc (T.setVm vm₁) hT hW₁⟩)
  dsimp only [Pt.U, Pt.locs, Pt.cells, Pt.slots] at X' e1 e2 h1 h2 h3 st
  subst h1; subst h2; subst h3
  exact ⟨v, (T.setVm vm₁).calling g' mk (Value.ref b :: As).toArray, t, U', L, hT, X', hL, e1, e2, hq, st⟩
section
variable {y : MethodName} {bytes cc : ByteArray} {maxL nL mc ms n index : Nat} {ret : Option FieldType} {ws : List Cond} {rm : Room} {Pc : Array Value → State → Prop} {Qc : Array Value → State → Outcome → State → Prop} {XC : String → State → State → Prop} {free : Addr → Prop} {Ts : List Cond} {own C : String} {b : Addr} {As rest : List Value} {g : JFrame}
theorem vx_runVX {hh : List (Nat × Nat × Nat × Nat)} (S : CallFix p m c cc nL s args Ts own) (hM : vx_Met l y ws rm Pc Qc XC mc ms free) (cw : vx_CVW R s args own C index y bytes maxL ret hh ws rm mc ms n) (hp : PreV s H C b Pc As)
    (hg : g.method = m) (hn : As.length = n) (hsize : g.locals.size = nL) (hstack : g.stack = As.reverse ++ .ref b :: rest) (hW : 2 * g.monitorRoom + (rest.map fun v => v.category).sum ≤ 8) (hdg : decode cc g.pc = .ok (.invokevirtual index, 3)) (hf : cells + mc ≤ R.cells ∧ slots + ms ≤ R.slots) :
    vx_Run p l e R s m args below meth c H locs cells slots mc ms g rest (Qc (Value.ref b :: As).toArray) XC free := by
  obtain ⟨⟨hrc, hrs, hfr, hlo, hws, hcw⟩, hcode, hini, hy, hlen, hl, hin, hse⟩ := cw
  have hK : vx_Back l R p e below s args y 3 8 (PreOf R mc ms Pc) (PostOf Qc mc ms free) (vx_Post XC mc ms free) := vx_backW (hh := hh) (bytes := bytes) (maxL := maxL) (ret := ret) hM hp.1 hrc hrs hfr hlo hws hcw (fun a' U hW => word_at hW (Or.inl (by first | rfl | simp [Cond.onTables, Cond.keeps, Cond.steady])) hini)
  obtain ⟨hx, hb, hml, ho, -⟩ := S
  obtain ⟨-, ⟨cellB, hcB, hoB, hclB⟩, hPc⟩ := hp
  intro T hT X
  rcases vx_callVX X hx (C := C) (hh := hh) (bytes := bytes) (maxL := maxL) (ret := ret) ho hl hin hse hcode hy hK (by rw [hT]; exact hcB) hoB hclB hg (hsize.trans hml.symm) (argsL := As) (rest := rest) (fun sig h => hn.trans (hlen sig h)) hstack hW (by rw [hb]; exact hdg)
    (fun vm₁ hW₁ => ⟨hf.1, hf.2, hPc (T.setVm vm₁) hT hW₁⟩) with ⟨v, vm₁, ⟨U', l2, c2, s2⟩, hW₁, X', ⟨g', mk, t, L, e1, e2, hq, h1, hL, h2, h3⟩, st⟩ | ⟨q, vm₁, ⟨U', l2, c2, s2⟩, hW₁, X', ⟨g', mk, t, L, E, ce, e1, e2, hq, hce, hcv, hcl, h1, hL, h2, h3⟩, st⟩
  · dsimp only [Pt.U, Pt.locs, Pt.cells, Pt.slots] at X' e1 e2 h1 h2 h3 st
    subst h1; subst h2; subst h3
    exact Or.inl ⟨v, (T.setVm vm₁).calling g' mk (Value.ref b :: As).toArray, t, U', L, hT, X', hL, e1, e2, hq, st⟩
  · dsimp only [Pt.U, Pt.locs, Pt.cells, Pt.slots] at X' e1 e2 h1 h2 h3 st hcl
    subst h1; subst h2; subst h3
    exact Or.inr ⟨q, (T.setVm vm₁).calling g' mk (Value.ref b :: As).toArray, t, U', L, E, ce, hT, X', hL, e1, e2, hq, hce, hcv, vx_cls hW₁ hcl, st⟩
theorem vx_runSX {hh : List (Nat × Nat × Nat × Nat)} (S : CallFix p m c cc nL s args Ts own) (hM : vx_Met l y ws rm Pc Qc XC mc ms free) (cw : vx_CSW R s args own index y bytes maxL ret hh ws rm mc ms n) (hp : PreS s H Pc As)
    (hg : g.method = m) (hn : As.length = n) (hsize : g.locals.size = nL) (hstack : g.stack = As.reverse ++ rest) (hW : 2 * g.monitorRoom + (rest.map fun v => v.category).sum ≤ 8) (hdg : decode cc g.pc = .ok (.invokestatic index, 3)) (hf : cells + mc ≤ R.cells ∧ slots + ms ≤ R.slots) :
    vx_Run p l e R s m args below meth c H locs cells slots mc ms g rest (Qc As.toArray) XC free := by
  obtain ⟨⟨hrc, hrs, hfr, hlo, hws, hcw⟩, hcode, hini, hy, hlen, hl, hstt⟩ := cw
  have hK : vx_Back l R p e below s args y 3 8 (PreOf R mc ms Pc) (PostOf Qc mc ms free) (vx_Post XC mc ms free) := vx_backW (hh := hh) (bytes := bytes) (maxL := maxL) (ret := ret) hM hp.1 hrc hrs hfr hlo hws hcw (fun a' U hW => word_at hW (Or.inl (by first | rfl | simp [Cond.onTables, Cond.keeps, Cond.steady])) hini)
  obtain ⟨hx, hb, hml, ho, -⟩ := S
  intro T hT X
  rcases vx_callSX X hx (hh := hh) (bytes := bytes) (maxL := maxL) (ret := ret) ho hl hstt hini hcode hy hK hg (hsize.trans hml.symm) (argsL := As) (rest := rest) (fun sig h => hn.trans (hlen sig h)) hstack hW (by rw [hb]; exact hdg)
    (fun vm₁ hW₁ => ⟨hf.1, hf.2, hp.2 (T.setVm vm₁) hT hW₁⟩) with ⟨v, vm₁, ⟨U', l2, c2, s2⟩, hW₁, X', ⟨g', mk, t, L, e1, e2, hq, h1, hL, h2, h3⟩, st⟩ | ⟨q, vm₁, ⟨U', l2, c2, s2⟩, hW₁, X', ⟨g', mk, t, L, E, ce, e1, e2, hq, hce, hcv, hcl, h1, hL, h2, h3⟩, st⟩
  · dsimp only [Pt.U, Pt.locs, Pt.cells, Pt.slots] at X' e1 e2 h1 h2 h3 st
    subst h1; subst h2; subst h3
    exact Or.inl ⟨v, (T.setVm vm₁).calling g' mk As.toArray, t, U', L, hT, X', hL, e1, e2, hq, st⟩
  · dsimp only [Pt.U, Pt.locs, Pt.cells, Pt.slots] at X' e1 e2 h1 h2 h3 st hcl
    subst h1; subst h2; subst h3
    exact Or.inr ⟨q, (T.setVm vm₁).calling g' mk As.toArray, t, U', L, E, ce, hT, X', hL, e1, e2, hq, hce, hcv, vx_cls hW₁ hcl, st⟩
end
end VXH
theorem vx_ofWH {l : Launch} {y : MethodName} {ws ws' : List Cond} {rm : Room} {Pc : Array Value → State → Prop} {Qc : Array Value → State → Outcome → State → Prop} {XC : String → State → State → Prop} {mc ms : Nat} {free : Addr → Prop} {cc : ByteArray} {maxL : Nat} {ret : Option FieldType} {hh : List (Nat × Nat × Nat × Nat)}
    (hy : plainName y.cls = true) (hw : ws = Cond.codeWith y cc maxL ret hh :: ws')
    (body : ∀ p e s m args below meth c s₁, BodyLoose p l y (headSpec ws rm) cc maxL ret e s m args below meth c s₁ → c.maxLocals = maxL → Pc args s →
      W p l e (headSpec ws rm).room s m args below meth c s.heap [] 0 0 (vx_MQ below Qc XC args s mc ms free) (entryFrame m args maxL)) : vx_Met l y ws rm Pc Qc XC mc ms free := by
  refine MetFree.of_bodyS (code := cc) (maxLocals := maxL) (ret := ret) hy ?_ ?_
  · intro args s m h hn
    obtain ⟨m9, meth, c, hn9, h1, h2, h3, h4, -, h5, h6, -⟩ := Cond.codeWith_spec (atoms_spec (ws := ws) h _ (by rw [hw]; exact List.mem_cons_self))
    cases hn.symm.trans hn9
    exact ⟨meth, c, h1, h2, h3, h4, h5, h6⟩
  · intro p e s m args below meth c s₁ B hml hP _
    have hh0 : s₁.heap = s.heap := by rw [B.state]; rfl
    obtain ⟨t, a1, o, b1, b2, b3⟩ := body p e s m args below meth c s₁ B hml hP s₁ hh0 (Stand.of_body B)
    exact ⟨t, o, a1, b1, b2, b3⟩
/-! ===== END ===== -/

/-! ===== BEGIN what the machine throws by itself, no traces kept ===== -/
section VXM
set_option maxHeartbeats 1000000 in
/-- the machine throws cls with the message text, no traces kept: from its note over the frame g to 'throwing' over the same frame (follows the proofs of Stand.vmThrowsMessage, Shelf/KitTracedVmS.lean, and Stand.throwsMessageColdBareV, StandMessageColdV.lean, without the step out of the frame) -/
theorem vx_vmAt {p : Program} {l : Launch} {e : Env} {R : Room} {s : State} {m₀ : MethodId} {args : Array Value} {below : List Frame} {meth : Method} {c : Code} {W : State} {locs : List Loc} {cells slots : Nat}
    (X : Stand p l e R s m₀ args below meth c W locs cells slots) (hexec : p.tables.exec = Jvm.exec) (htr : e.platform.stackTraces = false) {cls : String} {names : List String} {text : String}
    (hcls : Bundle.fit cls = true) (hnames : ∀ n ∈ names, Bundle.fit n = true) (hsoe : (cls == "java/lang/StackOverflowError") = false) (hoom : (cls == "java/lang/OutOfMemoryError") = false)
    (h : ∀ a ∈ Bundle.messageArmAtoms cls names, a.before args s = true)
    (hlocs : ∀ x ∈ locs, ∀ cell, s.heap[x.base]? = some cell → cell.vm.isStatics = false)
    (htext : (text == notModelled) = false) (hlimit : ¬ (stringBytes (stringToUtf16 text)).size > e.platform.arrayLengthLimit) (hheap : ¬ (stringBytes (stringToUtf16 text)).size * componentBytes .byte > e.platform.maxHeapBytes)
    {g : JFrame} (hg : g.method = m₀) (hsize : g.locals.size = c.maxLocals)
    (hRframes : names.length + 4 < R.frames) (hRlocals : 2 * g.monitorRoom + (g.stack.map fun v => v.category).sum + 10240 ≤ R.locals) (hshort : 13 * names.length + 55 ≤ 10240)
    (hRcells : cells + 3 ≤ R.cells) (hRslots : slots + ((stringBytes (stringToUtf16 text)).size + 4 + 6) ≤ R.slots) (hlocks : meth.locks = false) :
    ∃ (S : State) (q : Addr) (ce : Cell), (∀ target, Steps p.tables e below ((S.setTop g).pushFrame (.throwing q)) target → Steps p.tables e below ((W.setTop g).pushFrame (.throwNew cls (some text) none)) target) ∧
      Stand p l e R s m₀ args below meth c S locs (cells + 3) (slots + ((stringBytes (stringToUtf16 text)).size + 4 + 6)) ∧ S.heap[q]? = some ce ∧ s.vm.findClass cls = some ce.cls ∧ ce.vm = .none := by
  have howns : e.platform.frameOwnsMonitors = true := by rw [X.admits.platform]
  have hfin : e.platform.finalization = false := by rw [X.admits.platform]
  have hpl : e.platform.magicAccessors = ({} : Platform).magicAccessors := by rw [X.admits.platform]
  have a : ∀ x, x ∈ Bundle.messageArmAtoms cls names → x.holds args s none s [] = true := fun x hx => h x hx
  obtain ⟨T, Z0, L, -, Y⟩ := ThrowableC.of_atoms (args := args) howns hfin hpl (fun x hx => h x (by simp [Bundle.messageArmAtoms, hx]))
  obtain ⟨Z, M, LZ, LM, hnZ⟩ := Init0T.ofS_atoms (args := args) hpl L Y (fun x hx => h x (by simp [Bundle.messageArmAtoms, hx]))
  obtain ⟨P1, Ps, hlen, L1, hL, hP1m, hlink1, hlink⟩ := Bundle.chainS (args := args) hpl hnZ names cls hcls hnames (fun x hx => h x (by simp [Bundle.messageArmAtoms, hx]))
  obtain ⟨Zs, LZs, hn4, hfitv, hfitc⟩ := StringT.of_atoms (args := args) (fun x hx => h x (by simp [Bundle.messageArmAtoms, hx]))
  have hfound : s.vm.findClass cls = some P1.m.cls := findClass_of_methodNamed hP1m
  obtain ⟨c1, kX, hc1, hk, hord, -, -, hn6⟩ := Cond.instantiable_spec (a (.instantiable cls 6) (by simp [Bundle.messageArmAtoms]))
  cases Option.some.inj (hc1.symm.trans hfound)
  have hinit := Cond.initialized_spec hfound hk (a (.initialized cls) (by simp [Bundle.messageArmAtoms]))
  have hctor : kX.findMethod "<init>" "(Ljava/lang/String;)V" = some P1.m.idx := findMethod_of_methodNamed hP1m hk
  have hsel0 : selectMethod e.platform s.vm P1.m.cls T.fill0 = .method T.fill0 := by
    obtain ⟨c2, r2, m2, q1, q2, q3, q4, -⟩ := Cond.selects_spec (a (.selects cls Bundle.tFill0 Bundle.tFill0) (by simp [Bundle.messageArmAtoms]))
    cases Option.some.inj (q1.symm.trans hfound)
    cases Option.some.inj (q2.symm.trans (State.methodFound?_of_named Y.fill0 (by decide)))
    cases Option.some.inj (q3.symm.trans Y.fill0)
    rw [Launch.admits_selectMethod X.admits]; exact q4
  have hselF : selectMethod e.platform s.vm P1.m.cls T.fill = .method T.fill := by
    obtain ⟨c2, r2, m2, q1, q2, q3, q4, -⟩ := Cond.selects_spec (a (.selects cls Bundle.tFill Bundle.tFill) (by simp [Bundle.messageArmAtoms]))
    cases Option.some.inj (q1.symm.trans hfound)
    cases Option.some.inj (q2.symm.trans (State.methodFound?_of_named Y.fill (by decide)))
    cases Option.some.inj (q3.symm.trans Y.fill)
    rw [Launch.admits_selectMethod X.admits]; exact q4
  obtain ⟨cellS0, hcS0, hiss⟩ := Y.statics
  obtain ⟨u0, hu0⟩ := Cond.staticRefV Y.unassigned L.unassignedStatic L.statics hcS0 hiss (a (.isRef (.static Bundle.tN "UNASSIGNED_STACK" Bundle.steD)) (by simp [Bundle.messageArmAtoms]))
  obtain ⟨sen, hsen⟩ := Cond.staticRefV Y.sentinel L.sentinelStatic L.statics hcS0 hiss (a (.isRef (.static Bundle.tN "SUPPRESSED_SENTINEL" Bundle.listD)) (by simp [Bundle.messageArmAtoms]))
  obtain ⟨ci198, i198, fB, hk198, hg198, ha198, hsB, -, hnB, htB, hffB⟩ := Cond.ownField (t := .object "java/lang/Object") Y.found L.cls (by decide +kernel) (a (.fieldLink Bundle.tN 198 Bundle.tN "backtrace" "Ljava/lang/Object;") (by simp [Bundle.messageArmAtoms])) (a (.lays Bundle.tN Bundle.tN "backtrace" "Ljava/lang/Object;") (by simp [Bundle.messageArmAtoms])) e.platform hpl
  obtain ⟨cellS, hcS', heS, -, hkeep⟩ := X.same.2.2.2.2.2 T.aS cellS0 hcS0
  have hcellS : W.heap[T.aS]? = some cellS := hcS'
  have hout' : ∀ i, (⟨T.aS, i⟩ : Loc) ∉ locs := fun i hmem => by
    have := hlocs _ hmem cellS0 hcS0
    rw [hiss] at this; cases this
  have hknownS : cellS.vm ≠ .unknown := by
    rw [heS]; intro hu
    rw [show cellS0.vm = .unknown from hu] at hiss
    cases hiss
  have hvU : cellS.slots[T.fUnassigned.slot]? = some u0.v := by rw [hkeep _ (hout' _)]; exact hu0
  have hvSen : cellS.slots[T.fSentinel.slot]? = some sen.v := by rw [hkeep _ (hout' _)]; exact hsen
  obtain ⟨iM, hffM⟩ := Y.msg
  obtain ⟨tyC, dC, hdC, hdnC⟩ := Cond.laysAt hfound hk Y.cause (a (.lays cls Bundle.tN "cause" "Ljava/lang/Throwable;") (by simp [Bundle.messageArmAtoms]))
  obtain ⟨tyS, dS, hdS, hdnS⟩ := Cond.laysAt hfound hk Y.stack (a (.lays cls Bundle.tN "stackTrace" Bundle.steD) (by simp [Bundle.messageArmAtoms]))
  obtain ⟨tyP, dP, hdP, hdnP⟩ := Cond.laysAt hfound hk Y.supp (a (.lays cls Bundle.tN "suppressedExceptions" Bundle.listD) (by simp [Bundle.messageArmAtoms]))
  obtain ⟨tyM, dM, hdM, hdnM⟩ := Cond.laysAt hfound hk hffM (a (.lays cls Bundle.tN "detailMessage" "Ljava/lang/String;") (by simp [Bundle.messageArmAtoms]))
  obtain ⟨tyB, dB, hdB, hdnB⟩ := Cond.laysAt hfound hk hffB (a (.lays cls Bundle.tN "backtrace" "Ljava/lang/Object;") (by simp [Bundle.messageArmAtoms]))
  have bC := Cond.laysApart hdB hdC hdnB hdnC (by rw [hnB, Y.causeName]; decide)
  have bS := Cond.laysApart hdB hdS hdnB hdnS (by rw [hnB, Y.stackName]; decide)
  have bP := Cond.laysApart hdB hdP hdnB hdnP (by rw [hnB, Y.suppName]; decide)
  have hbk : ((preparedCellV T.toThrowableT (freshCell P1.m.cls kX) (W.heap.size + 2) u0 sen).withEntry W.cur).slots[fB.slot]? = some .null := by
    have := fresh_default (c := P1.m.cls) tyB
    rw [htB] at this
    simpa [preparedCellV, Cell.setSlot, Cell.withEntry, Array.getElem?_setIfInBounds, bC, bS, bP, bC.symm, bS.symm, bP.symm, defaultValue] using this
  have tkC := Takes.of_laid (v := .ref (W.heap.size + 2)) hk hord tyC (by rw [Y.causeType]; rfl)
  have tkS := Takes.of_laid (v := u0.v) hk hord tyS (by rw [Y.stackType]; exact fits_refV_array _ u0)
  have tkP := Takes.of_laid (v := sen.v) hk hord tyP (by rw [Y.suppType]; exact fits_refV_object _ sen)
  have tkM := Takes.of_laid (v := .ref (W.heap.size + 1)) hk hord tyM (by rw [Y.msgType]; rfl)
  have hskip : SkipFacts T e.platform s (fun u => u) u0 ((preparedCellV T.toThrowableT (freshCell P1.m.cls kX) (W.heap.size + 2) u0 sen).withEntry W.cur) := ⟨{ ci198 := ci198, i198 := i198, fBack := fB }, ⟨hk198, hg198, ha198, hsB⟩, hbk, fun _ _ => rfl⟩
  have h0 : At W g.method c below := by rw [hg]; exact X.here
  obtain ⟨hbeyond, hfreeW⟩ := X.vmMayThrow hsize (.throwNew cls (some text) none) (fun f hf => by cases hf) rfl hRlocals
  have hfr' : W.frames.length + Ps.length + 4 < (e.platform.stackLimits W.me).1 := by have := X.framesAbove hRframes; omega
  have hwd' : (stackUse (.java g :: W.frames.tail)).2 + 13 * Ps.length + 55 ≤ (e.platform.stackLimits W.me).2 := by have := X.stackAbove hsize (K := 13 * Ps.length + 55) (by omega); omega
  have hslots : W.slotsUsed + (stringBytes (stringToUtf16 text)).size + Zs.kS.instanceTypes.size + kX.instanceTypes.size ≤ e.platform.maxSlots := by
    have := X.slotsAbove hRslots
    rw [hn4, hn6]
    omega
  obtain ⟨vm', hW', st⟩ := Steps.vmThrowsMessageColdByV p (s₀ := s) (S := W) (g := g) h0 hexec T L Z LZ M LM X.warmed (t := W.cur) rfl Zs LZs P1 L1 Ps hL hlink1 hlink hsoe hoom hfound hk hinit hord hctor
    (Launch.admits_hotImplicitExceptions X.admits) hbeyond hfreeW htext hlimit hheap (X.cellsAbove hRcells) hslots (hfitv _) (hfitc _)
    (Nn := fun u => u) heapOnly_id (fun _ _ => rfl) (fun _ => rfl) (fun u x y => setCell_twice _ _ _ _) (fun _ => Nat.le_refl _) (cN := ((preparedCellV T.toThrowableT (freshCell P1.m.cls kX) (W.heap.size + 2) u0 sen).withEntry W.cur))
    hsel0 hcellS hknownS hvU tkS (fun _ hu => hu) (fun _ hu => hu) rfl rfl rfl (by simp [preparedCellV, Cell.setSlot, Cell.withEntry]) hskip (fun _ _ hA hW _ hroom _ hrest => L.nativeOff p htr hA hW hroom hrest) hselF hvSen tkC tkP tkM Y.objLocals rfl hfr' hwd'
  rw [plainBareV_eq T.toThrowableT (W.heap.size + 2) u0 sen (.ref (W.heap.size + 1)) W.cur rfl rfl] at st
  obtain ⟨-, -, w3, w4, -, -, -⟩ := withThrown_facts e.platform W Zs text P1.m.cls kX
  have X3 := ((X.pushed (bytesOf Zs.cB (stringToUtf16 text))).pushed (stringAt Zs.cS Zs.kS Zs.fv Zs.fc (stringToUtf16 text) W.heap.size)).pushed (freshCell P1.m.cls kX)
  rw [← withString_eq] at X3
  have X4 := X3.noted hW'
  have ha : (W.heap.size + 2) < ((withThrown W Zs text P1.m.cls kX).setVm vm').heap.size := by show _ < (withThrown W Zs text P1.m.cls kX).heap.size; rw [w3]; omega
  have hcell : ((withThrown W Zs text P1.m.cls kX).setVm vm').heap[(W.heap.size + 2)]? = some (freshCell P1.m.cls kX) := w4
  have X5 := ((((X4.stored hcell T.fCause.slot (.ref (W.heap.size + 2))).storedAgain ha T.fStack.slot u0.v).storedAgain ha T.fSupp.slot sen.v).storedAgain ha T.fStack.slot u0.v).storedAgain ha T.fMsg.slot (.ref (W.heap.size + 1))
  obtain ⟨g₁, hfrM⟩ := X5.frames_eq
  have hU : ((((withThrown W Zs text P1.m.cls kX).setVm vm').setCell (W.heap.size + 2) (plainBareV T.toThrowableT (freshCell P1.m.cls kX) (W.heap.size + 2) u0 sen (.ref (W.heap.size + 1)))).setTop g).pushFrame (.throwing (W.heap.size + 2)) = (((withThrown W Zs text P1.m.cls kX).setVm vm').setCell (W.heap.size + 2) (plainBareV T.toThrowableT (freshCell P1.m.cls kX) (W.heap.size + 2) u0 sen (.ref (W.heap.size + 1)))).setFrames (.throwing (W.heap.size + 2) :: .java g :: below) := by
    rw [State.pushFrame, State.frames_setTop _ hfrM, State.setTop_of_frames _ hfrM, State.setFrames_setFrames]
  have b1 : (bytesOf Zs.cB (stringToUtf16 text)).slots.size = (stringBytes (stringToUtf16 text)).size := by
    rw [(Cell.writeAll_facts _ _).2.2]; simp [bytes0]
  have b2 : (stringAt Zs.cS Zs.kS Zs.fv Zs.fc (stringToUtf16 text) W.heap.size).slots.size = 4 := by simp [string0, Cell.setSlot, hn4]
  have b3 : (freshCell P1.m.cls kX).slots.size = 6 := by simp [hn6]
  rw [b1, b2, b3] at X5
  have e9 : slots + (stringBytes (stringToUtf16 text)).size + 4 + 6 = slots + ((stringBytes (stringToUtf16 text)).size + 4 + 6) := by omega
  rw [e9] at X5
  simp only [List.append_assoc, List.cons_append, List.nil_append] at X5
  refine ⟨((withThrown W Zs text P1.m.cls kX).setVm vm').setCell (W.heap.size + 2) (plainBareV T.toThrowableT (freshCell P1.m.cls kX) (W.heap.size + 2) u0 sen (.ref (W.heap.size + 1))), W.heap.size + 2, _, fun target ht => st _ (by rw [X.tail, ← hU]; exact ht),
    X5.forget (fun y hy => ?_), heapAt_setCell_self _ ha, hfound, rfl⟩
  simp only [List.mem_cons, List.not_mem_nil, or_false] at hy
  have hge : s.heap.size ≤ W.heap.size := X.same.2.1
  rcases hy with rfl | rfl | rfl | rfl | rfl <;> exact Nat.le_trans hge (Nat.le_add_right _ 2)
set_option maxHeartbeats 1000000 in
/-- the machine throws NullPointerException, no traces kept: from its note over the frame g to 'throwing' over the same frame (follows the proof of Stand.vmThrowsNpe, Shelf42/KT2.lean; throwsNpeColdBareVAt, Shelf42/NT91.lean, called) -/
theorem vx_npeAt {p : Program} {l : Launch} {e : Env} {R : Room} {s : State} {m₀ : MethodId} {args : Array Value} {below : List Frame} {meth : Method} {c : Code} {W : State} {locs : List Loc} {cells slots : Nat}
    (X : Stand p l e R s m₀ args below meth c W locs cells slots) (hexec : p.tables.exec = Jvm.exec) (htr : e.platform.stackTraces = false) {n : Nat}
    (h : ∀ a ∈ Bundle.npeArmAtoms n, a.before args s = true)
    (hlocs : ∀ x ∈ locs, ∀ cell, s.heap[x.base]? = some cell → cell.vm.isStatics = false)
    {g : JFrame} (hg : g.method = m₀) (hsize : g.locals.size = c.maxLocals)
    (hRframes : 7 < R.frames) (hRlocals : 2 * g.monitorRoom + (g.stack.map fun v => v.category).sum + 10240 ≤ R.locals)
    (hRcells : cells + 1 ≤ R.cells) (hRslots : slots + n ≤ R.slots) (hlocks : meth.locks = false) :
    ∃ (S : State) (q : Addr) (ce : Cell), (∀ target, Steps p.tables e below ((S.setTop g).pushFrame (.throwing q)) target → Steps p.tables e below ((W.setTop g).pushFrame (.throwNew "java/lang/NullPointerException" none none)) target) ∧
      Stand p l e R s m₀ args below meth c S locs (cells + 1) (slots + n) ∧ S.heap[q]? = some ce ∧ s.vm.findClass "java/lang/NullPointerException" = some ce.cls ∧ ce.vm = .none := by
  have howns : e.platform.frameOwnsMonitors = true := by rw [X.admits.platform]
  have hfin : e.platform.finalization = false := by rw [X.admits.platform]
  have hpl : e.platform.magicAccessors = ({} : Platform).magicAccessors := by rw [X.admits.platform]
  have hpl2 : e.platform.arrayCloneIsPublic = true := by rw [X.admits.platform]
  have a' : ∀ x, x ∈ Bundle.npeArmAtoms n → x.holds args s none s [] = true := fun x hx => h x hx
  obtain ⟨T, Z, L, LZ, Y⟩ := ThrowableC.of_atoms (args := args) howns hfin hpl (fun x hx => h x (by simp [Bundle.npeArmAtoms, hx]))
  obtain ⟨N, LN, hcN, hnNF, hordN, hffS⟩ := NpeC.of_atoms (args := args) hpl hpl2 L Y (fun x hx => h x (by simp [Bundle.npeArmAtoms, hx]))
  obtain ⟨P1, L1, hP1m, hP1s⟩ := PassC.of_atoms (args := args) (s := s) hpl (X := Bundle.nN) (Y := Bundle.rN) (by decide) (by decide) LibCode.NullPointerException.Init0.at_0 LibCode.NullPointerException.Init0.at_1 LibCode.NullPointerException.Init0.at_4 (fun x hx => h x (by simp [Bundle.npeArmAtoms, hx]))
  obtain ⟨PR, LR, hPRm, hPRs⟩ := PassC.of_atoms (args := args) (s := s) hpl (X := Bundle.rN) (Y := Bundle.eN) (by decide) (by decide) LibCode.RuntimeException.Init0.at_0 LibCode.RuntimeException.Init0.at_1 LibCode.RuntimeException.Init0.at_4 (fun x hx => h x (by simp [Bundle.npeArmAtoms, hx]))
  obtain ⟨PE, LEx, hPEm, hPEs⟩ := PassC.of_atoms (args := args) (s := s) hpl (X := Bundle.eN) (Y := Bundle.tN) (by decide) (by decide) LibCode.Exception.Init0.at_0 LibCode.Exception.Init0.at_1 LibCode.Exception.Init0.at_4 (fun x hx => h x (by simp [Bundle.npeArmAtoms, hx]))
  have hfound : s.vm.findClass Bundle.nN = some P1.m.cls := findClass_of_methodNamed hP1m
  have ecls : N.cN = P1.m.cls := Option.some.inj (hcN.symm.trans hfound)
  have hk : s.vm.classes[P1.m.cls]? = some N.kN := by rw [← ecls]; exact LN.cls
  have hinit := Cond.initialized_spec hfound hk (a' (.initialized Bundle.nN) (by simp [Bundle.npeArmAtoms]))
  have hctor : N.kN.findMethod "<init>" "()V" = some P1.m.idx := findMethod_of_methodNamed hP1m hk
  obtain ⟨c1, k1, hc1, hk1, -, -, -, hn⟩ := Cond.instantiable_spec (a' (.instantiable Bundle.nN n) (by simp [Bundle.npeArmAtoms]))
  cases Option.some.inj (hc1.symm.trans hfound)
  cases Option.some.inj (hk1.symm.trans hk)
  have hfsz : (freshCell P1.m.cls N.kN).slots.size = n := by simp [hn]
  have hlink1 : P1.sup = PR.m := Option.some.inj (hP1s.symm.trans hPRm)
  have hlinkR : PR.sup = PE.m := Option.some.inj (hPRs.symm.trans hPEm)
  have hlinkE : PE.sup = Z.m T.toThrowableT := Option.some.inj (hPEs.symm.trans Y.init0)
  have hLs : ∀ P, P ∈ [PR, PE] → P.Links0 e.platform s := fun P hP => by
    simp only [List.mem_cons, List.not_mem_nil, or_false] at hP
    rcases hP with rfl | rfl
    · exact LR
    · exact LEx
  have hsel0 : selectMethod e.platform s.vm P1.m.cls T.fill0 = .method T.fill0 := by
    obtain ⟨c2, r2, m2, q1, q2, q3, q4, -⟩ := Cond.selects_spec (a' (.selects Bundle.nN Bundle.tFill0 Bundle.tFill0) (by simp [Bundle.npeArmAtoms]))
    cases Option.some.inj (q1.symm.trans hfound)
    cases Option.some.inj (q2.symm.trans (State.methodFound?_of_named Y.fill0 (by decide)))
    cases Option.some.inj (q3.symm.trans Y.fill0)
    rw [Launch.admits_selectMethod X.admits]; exact q4
  have hselF : selectMethod e.platform s.vm P1.m.cls T.fill = .method N.fill := by
    obtain ⟨c2, r2, m2, q1, q2, q3, q4, -⟩ := Cond.selects_spec (a' (.selects Bundle.nN Bundle.tFill Bundle.nFill) (by simp [Bundle.npeArmAtoms]))
    cases Option.some.inj (q1.symm.trans hfound)
    cases Option.some.inj (q2.symm.trans (State.methodFound?_of_named Y.fill (by decide)))
    cases Option.some.inj (q3.symm.trans hnNF)
    rw [Launch.admits_selectMethod X.admits]; exact q4
  obtain ⟨cellS0, hcS0, hiss⟩ := Y.statics
  obtain ⟨u0, hu0⟩ := Cond.staticRefV Y.unassigned L.unassignedStatic L.statics hcS0 hiss (a' (.isRef (.static Bundle.tN "UNASSIGNED_STACK" Bundle.steD)) (by simp [Bundle.npeArmAtoms]))
  obtain ⟨sen, hsen⟩ := Cond.staticRefV Y.sentinel L.sentinelStatic L.statics hcS0 hiss (a' (.isRef (.static Bundle.tN "SUPPRESSED_SENTINEL" Bundle.listD)) (by simp [Bundle.npeArmAtoms]))
  obtain ⟨ci198, i198, fB, hk198, hg198, ha198, hsB, -, hnB, htB, hffB⟩ := Cond.ownField (t := .object "java/lang/Object") Y.found L.cls (by decide +kernel) (a' (.fieldLink Bundle.tN 198 Bundle.tN "backtrace" Bundle.objD) (by simp [Bundle.npeArmAtoms])) (a' (.lays Bundle.tN Bundle.tN "backtrace" Bundle.objD) (by simp [Bundle.npeArmAtoms])) e.platform hpl
  obtain ⟨cellS, hcS', heS, -, hkeep⟩ := X.same.2.2.2.2.2 T.aS cellS0 hcS0
  have hcellS : W.heap[T.aS]? = some cellS := hcS'
  have hout' : ∀ i, (⟨T.aS, i⟩ : Loc) ∉ locs := fun i hmem => by
    have := hlocs _ hmem cellS0 hcS0
    rw [hiss] at this; cases this
  have hknownS : cellS.vm ≠ .unknown := by
    rw [heS]; intro hu
    rw [show cellS0.vm = .unknown from hu] at hiss
    cases hiss
  have hvU : cellS.slots[T.fUnassigned.slot]? = some u0.v := by rw [hkeep _ (hout' _)]; exact hu0
  have hvSen : cellS.slots[T.fSentinel.slot]? = some sen.v := by rw [hkeep _ (hout' _)]; exact hsen
  obtain ⟨tyC, dC, hdC, hdnC⟩ := Cond.laysAt hfound hk Y.cause (a' (.lays Bundle.nN Bundle.tN "cause" "Ljava/lang/Throwable;") (by simp [Bundle.npeArmAtoms]))
  obtain ⟨tyS, dS, hdS, hdnS⟩ := Cond.laysAt hfound hk Y.stack (a' (.lays Bundle.nN Bundle.tN "stackTrace" Bundle.steD) (by simp [Bundle.npeArmAtoms]))
  obtain ⟨tyP, dP, hdP, hdnP⟩ := Cond.laysAt hfound hk Y.supp (a' (.lays Bundle.nN Bundle.tN "suppressedExceptions" Bundle.listD) (by simp [Bundle.npeArmAtoms]))
  obtain ⟨tyX, dX, hdX, hdnX⟩ := Cond.laysAt hfound hk hffS (a' (.lays Bundle.nN Bundle.nN "extendedMessageState" "I") (by simp [Bundle.npeArmAtoms, Bundle.npeAtoms]))
  obtain ⟨hnX, htX⟩ := State.fieldFound?_type hffS (t := .int) (by decide +kernel)
  have xC := Cond.laysApart hdC hdX hdnC hdnX (by rw [hnX, Y.causeName]; decide)
  have xS := Cond.laysApart hdS hdX hdnS hdnX (by rw [hnX, Y.stackName]; decide)
  have xP := Cond.laysApart hdP hdX hdnP hdnX (by rw [hnX, Y.suppName]; decide)
  have hv0 : (freshCell P1.m.cls N.kN).slots[N.fState.slot]? = some (.int 0) := by
    have := fresh_default (c := P1.m.cls) tyX
    rw [htX] at this; exact this
  obtain ⟨tyB, dB, hdB, hdnB⟩ := Cond.laysAt hfound hk hffB (a' (.lays Bundle.nN Bundle.tN "backtrace" Bundle.objD) (by simp [Bundle.npeArmAtoms]))
  have bC := Cond.laysApart hdB hdC hdnB hdnC (by rw [hnB, Y.causeName]; decide)
  have bS := Cond.laysApart hdB hdS hdnB hdnS (by rw [hnB, Y.stackName]; decide)
  have bP := Cond.laysApart hdB hdP hdnB hdnP (by rw [hnB, Y.suppName]; decide)
  have bX := Cond.laysApart hdB hdX hdnB hdnX (by rw [hnB, hnX]; decide)
  have hbk : ((npeCell N.toNpeT (preparedCellV T.toThrowableT (freshCell P1.m.cls N.kN) W.heap.size u0 sen) W.cur).withEntry W.cur).slots[fB.slot]? = some .null := by
    have := fresh_default (c := P1.m.cls) tyB
    rw [htB] at this
    simpa [npeCell, preparedCellV, Cell.setSlot, Cell.withEntry, Array.getElem?_setIfInBounds, bC, bS, bP, bX, bC.symm, bS.symm, bP.symm, bX.symm, defaultValue] using this
  have tkC := Takes.of_laid (v := .ref W.heap.size) hk hordN tyC (by rw [Y.causeType]; rfl)
  have tkS := Takes.of_laid (v := u0.v) hk hordN tyS (by rw [Y.stackType]; exact fits_refV_array _ u0)
  have tkP := Takes.of_laid (v := sen.v) hk hordN tyP (by rw [Y.suppType]; exact fits_refV_object _ sen)
  have tkX := Takes.of_laid (v := .int 1) hk hordN tyX (by rw [htX]; rfl)
  have hskip : SkipFacts T e.platform s (fun u => u) u0 ((npeCell N.toNpeT (preparedCellV T.toThrowableT (freshCell P1.m.cls N.kN) W.heap.size u0 sen) W.cur).withEntry W.cur) := ⟨{ ci198 := ci198, i198 := i198, fBack := fB }, ⟨hk198, hg198, ha198, hsB⟩, hbk, fun _ _ => rfl⟩
  obtain ⟨vm', X3, st, -⟩ := X.throwsNpeColdBareVAt hexec hg hsize T L Z LZ N LN P1 L1 [PR, PE] hLs hlink1 ⟨hlinkR, hlinkE, trivial⟩ hfound hk hinit hordN hctor hsel0 hselF hcellS hknownS hvU hvSen
    hv0 xC xS xP tkC tkS tkP tkX Y.objLocals hskip (fun _ _ hA hW _ hroom _ hrest => L.nativeOff p htr hA hW hroom hrest) (by simpa using hRframes) hRlocals (by simp) hRcells (by rw [hn]; exact hRslots)
  have hlt : W.heap.size < ((W.pushCell (freshCell P1.m.cls N.kN)).setVm vm').heap.size := by
    show W.heap.size < (W.pushCell (freshCell P1.m.cls N.kN)).heap.size
    rw [State.heap_size_pushCell]; omega
  rw [hfsz] at X3
  obtain ⟨g₁, hfrM⟩ := X3.frames_eq
  have hU : ((((W.pushCell (freshCell P1.m.cls N.kN)).setVm vm').setCell W.heap.size (npeBareV T.toThrowableT N.toNpeT (freshCell P1.m.cls N.kN) W.heap.size u0 sen)).setTop g).pushFrame (.throwing W.heap.size) = (((W.pushCell (freshCell P1.m.cls N.kN)).setVm vm').setCell W.heap.size (npeBareV T.toThrowableT N.toNpeT (freshCell P1.m.cls N.kN) W.heap.size u0 sen)).setFrames (.throwing W.heap.size :: .java g :: below) := by
    rw [State.pushFrame, State.frames_setTop _ hfrM, State.setTop_of_frames _ hfrM, State.setFrames_setFrames]
  refine ⟨_, W.heap.size, _, fun target ht => st.trans (by rw [← hU]; exact ht), X3.forget (fun y hy => ?_), heapAt_setCell_self _ hlt, hfound, rfl⟩
  simp only [List.mem_cons, List.not_mem_nil, or_false] at hy
  have hge : s.heap.size ≤ W.heap.size := X.same.2.1
  rcases hy with rfl | rfl | rfl | rfl | rfl <;> exact hge
/-- the words of a machine's NullPointerException, but the four that speak of the heap -/
def vx_atN (n : Nat) : List Cond := (Bundle.npeArmAtoms n).filter vx_no
/-- the words of a machine's throw with a message, but the four that speak of the heap -/
def vx_atM (X : String) (names : List String) : List Cond := (Bundle.messageArmAtoms X names).filter vx_no
section
variable {p : Program} {l : Launch} {e : Env} {R : Room} {s : State} {m : MethodId} {args : Array Value} {below : List Frame} {meth : Method} {c : Code} {H : Heap} {locs : List Loc} {cells slots : Nat}
/-- a frame seen from a rebased start, seen from the first start again -/
theorem vx_back9 {T S : State} {R' : Room} {k n : Nat} (X : Stand p l e R s m args below meth c T locs cells slots) (Y : Stand p l e R' ((T.setVm s.vm).setFrames (.invoking m args :: below)) m args below meth c T [] 0 0) (Z : Stand p l e R' ((T.setVm s.vm).setFrames (.invoking m args :: below)) m args below meth c S [] k n) :
    Stand p l e R s m args below meth c S locs (cells + k) (slots + n) := by
  have hW0 : s.WarmedH ((T.setVm s.vm).setFrames (.invoking m args :: below)).vm := State.WarmedH.refl s
  refine { admits := X.admits, cas := X.cas, clock := X.clock, frames := X.frames, room := X.room, hears := X.hears, method := X.method, code := X.code, here := Z.here, tail := Z.tail, warmed := State.WarmedH.trans hW0 Z.warmed, limits := Z.limits.trans (Y.limits.symm.trans X.limits), bytes := Z.bytes.trans (Y.bytes.symm.trans X.bytes), same := ?_ }
  obtain ⟨e1, e2⟩ := Z.same
  rw [State.setFrames_setFrames] at e1
  have h2 : (T.setVm s.vm).sameButNew (S.setVm s.vm) [] k n := ⟨e1, e2⟩
  have h3 := X.same.trans h2
  rw [List.append_nil] at h3
  exact h3
/-- from the machine's note that E is thrown here with this text -/
def vx_Note (p : Program) (l : Launch) (e : Env) (R : Room) (s : State) (m : MethodId) (args : Array Value) (below : List Frame) (meth : Method) (c : Code) (H : Heap) (locs : List Loc) (cells slots : Nat) (Q : State → Prop) (g : JFrame) (E text : String) : Prop :=
  ∀ T : State, T.heap = H → Stand p l e R s m args below meth c T locs cells slots → ∃ t, Steps p.tables e below ((T.setTop g).pushFrame (.throwNew E (some text) none)) t ∧ Q t
theorem vx_vm {pc : Nat} {ls : Array Slot} {rest : List Value} {Q : State → Prop} (hexec : p.tables.exec = Jvm.exec) (hl : l.stackTraces = false) {cls text : String} {names : List String} {nb : Nat} {A : Nat → Prop}
    (hcls : Bundle.fit cls = true) (hnames : ∀ n ∈ names, Bundle.fit n = true) (hsoe : (cls == "java/lang/StackOverflowError") = false) (hoom : (cls == "java/lang/OutOfMemoryError") = false)
    (hat : ∀ w ∈ vx_atM cls names, w.before args s = true) (hgood : ∀ w ∈ vx_atM cls names, vx_ot w = true)
    (hU : vx_Zq Bundle.tN "UNASSIGNED_STACK" Bundle.steD A s s.heap) (hN : vx_Zq Bundle.tN "SUPPRESSED_SENTINEL" Bundle.listD A s s.heap) (hS : va_S A s.heap H locs) (hsize : ls.size = c.maxLocals)
    (htext : (text == notModelled) = false) (hnb : (stringBytes (stringToUtf16 text)).size ≤ nb) (hnb1 : nb ≤ 1000)
    (hRframes : names.length + 4 < R.frames) (hRlocals : (rest.map fun v => v.category).sum + 10240 ≤ R.locals) (hshort : 13 * names.length + 55 ≤ 10240) (hRcells : cells + 3 ≤ R.cells) (hRslots : slots + (nb + 10) ≤ R.slots) (hlocks : meth.locks = false)
    (k : ∀ (H1 : Heap) (q9 : Addr) (ce : Cell), H.size ≤ H1.size → (∀ q : Nat, q < H.size → H1[q]? = H[q]?) → va_S A s.heap H1 locs → H1[q9]? = some ce → ce.vm = .none → s.vm.findClass cls = some ce.cls → vx_W p l e R s m args below meth c H1 locs (cells + 3) (slots + (nb + 10)) Q (F0 m pc ls rest) q9) :
    vx_Note p l e R s m args below meth c H locs cells slots Q (F0 m pc ls rest) cls text := by
  intro T hT X
  have htr : e.platform.stackTraces = false := (show e.platform.stackTraces = l.stackTraces by rw [X.admits.platform]).trans hl
  have Y := vx_rebase X (R' := { frames := R.frames, locals := R.locals, cells := 3, slots := nb + 10 }) (Nat.le_refl _) (Nat.le_refl _) hRcells hRslots
  have hhp : ((T.setVm s.vm).setFrames (.invoking m args :: below)).heap = H := hT
  have hW0 : s.WarmedH ((T.setVm s.vm).setFrames (.invoking m args :: below)).vm := State.WarmedH.refl s
  have hat' : ∀ w ∈ vx_atM cls names, w.before args ((T.setVm s.vm).setFrames (.invoking m args :: below)) = true := fun w hw => vx_ot_at hW0 rfl (hgood w hw) (hat w hw)
  have hU' : vx_Zq Bundle.tN "UNASSIGNED_STACK" Bundle.steD A ((T.setVm s.vm).setFrames (.invoking m args :: below)) ((T.setVm s.vm).setFrames (.invoking m args :: below)).heap := by rw [hhp]; exact vx_Zq.moved hW0.alike (hU.kept hS.2.1)
  have hN' : vx_Zq Bundle.tN "SUPPRESSED_SENTINEL" Bundle.listD A ((T.setVm s.vm).setFrames (.invoking m args :: below)) ((T.setVm s.vm).setFrames (.invoking m args :: below)).heap := by rw [hhp]; exact vx_Zq.moved hW0.alike (hN.kept hS.2.1)
  obtain ⟨S, q, ce, st, Z, hce, hcl', hv⟩ := vx_vmAt Y hexec htr (cls := cls) (names := names) (text := text) hcls hnames hsoe hoom (vx_own hat' (vx_isRefq hU'.1) (vx_isRefq hN'.1) hU'.2.word hN'.2.word) (fun x hx => nomatch hx) htext
    (by rw [Launch.admits_arrayLengthLimit X.admits]; omega) (by rw [Launch.admits_maxHeapBytes X.admits]; simp only [componentBytes]; omega)
    (g := F0 m pc ls rest) rfl hsize hRframes (by show 2 * 0 + (rest.map fun v => v.category).sum + 10240 ≤ R.locals; omega) hshort (by show 0 + 3 ≤ 3; omega) (by show 0 + (_ + 4 + 6) ≤ nb + 10; omega) hlocks
  obtain ⟨f1, f2⟩ := vx_frame Z.same
  have f1' : H.size ≤ S.heap.size := by rw [← hT]; exact f1
  have f2' : ∀ q : Nat, q < H.size → S.heap[q]? = H[q]? := fun q hq => by
    rw [← hT]
    exact f2 q (by rw [← hT] at hq; exact hq) (fun z hz => nomatch hz)
  have X5 := vx_back9 X Y Z
  have X6 : Stand p l e R s m args below meth c S locs (cells + 3) (slots + (nb + 10)) := { X5 with same := X5.same.mono (by omega) (by omega) }
  obtain ⟨t, a1, b1⟩ := k S.heap q ce f1' f2' ⟨Nat.le_trans hS.1 f1', fun q h1 h2 => (f2' q (Nat.lt_of_lt_of_le h1 hS.1)).trans (hS.2.1 q h1 h2), hS.2.2⟩ hce hv hcl' S rfl X6
  exact ⟨t, st t a1, b1⟩
/-- from the machine's note that NullPointerException is thrown here -/
def vx_NoteN (p : Program) (l : Launch) (e : Env) (R : Room) (s : State) (m : MethodId) (args : Array Value) (below : List Frame) (meth : Method) (c : Code) (H : Heap) (locs : List Loc) (cells slots : Nat) (Q : State → Prop) (g : JFrame) : Prop :=
  ∀ T : State, T.heap = H → Stand p l e R s m args below meth c T locs cells slots → ∃ t, Steps p.tables e below ((T.setTop g).pushFrame (.throwNew "java/lang/NullPointerException" none none)) t ∧ Q t
theorem vx_npe {pc : Nat} {ls : Array Slot} {rest : List Value} {Q : State → Prop} (hexec : p.tables.exec = Jvm.exec) (hl : l.stackTraces = false) {nb : Nat} {A : Nat → Prop}
    (hat : ∀ w ∈ vx_atN nb, w.before args s = true) (hgood : ∀ w ∈ vx_atN nb, vx_ot w = true)
    (hU : vx_Zq Bundle.tN "UNASSIGNED_STACK" Bundle.steD A s s.heap) (hN : vx_Zq Bundle.tN "SUPPRESSED_SENTINEL" Bundle.listD A s s.heap) (hS : va_S A s.heap H locs) (hsize : ls.size = c.maxLocals)
    (hRframes : 7 < R.frames) (hRlocals : (rest.map fun v => v.category).sum + 10240 ≤ R.locals) (hRcells : cells + 1 ≤ R.cells) (hRslots : slots + nb ≤ R.slots) (hlocks : meth.locks = false)
    (k : ∀ (H1 : Heap) (q9 : Addr) (ce : Cell), H.size ≤ H1.size → (∀ q : Nat, q < H.size → H1[q]? = H[q]?) → va_S A s.heap H1 locs → H1[q9]? = some ce → ce.vm = .none → s.vm.findClass "java/lang/NullPointerException" = some ce.cls → vx_W p l e R s m args below meth c H1 locs (cells + 1) (slots + nb) Q (F0 m pc ls rest) q9) :
    vx_NoteN p l e R s m args below meth c H locs cells slots Q (F0 m pc ls rest) := by
  intro T hT X
  have htr : e.platform.stackTraces = false := (show e.platform.stackTraces = l.stackTraces by rw [X.admits.platform]).trans hl
  have Y := vx_rebase X (R' := { frames := R.frames, locals := R.locals, cells := 1, slots := nb }) (Nat.le_refl _) (Nat.le_refl _) hRcells hRslots
  have hhp : ((T.setVm s.vm).setFrames (.invoking m args :: below)).heap = H := hT
  have hW0 : s.WarmedH ((T.setVm s.vm).setFrames (.invoking m args :: below)).vm := State.WarmedH.refl s
  have hat' : ∀ w ∈ vx_atN nb, w.before args ((T.setVm s.vm).setFrames (.invoking m args :: below)) = true := fun w hw => vx_ot_at hW0 rfl (hgood w hw) (hat w hw)
  have hU' : vx_Zq Bundle.tN "UNASSIGNED_STACK" Bundle.steD A ((T.setVm s.vm).setFrames (.invoking m args :: below)) ((T.setVm s.vm).setFrames (.invoking m args :: below)).heap := by rw [hhp]; exact vx_Zq.moved hW0.alike (hU.kept hS.2.1)
  have hN' : vx_Zq Bundle.tN "SUPPRESSED_SENTINEL" Bundle.listD A ((T.setVm s.vm).setFrames (.invoking m args :: below)) ((T.setVm s.vm).setFrames (.invoking m args :: below)).heap := by rw [hhp]; exact vx_Zq.moved hW0.alike (hN.kept hS.2.1)
  obtain ⟨S, q, ce, st, Z, hce, hcl', hv⟩ := vx_npeAt Y hexec htr (n := nb) (vx_own hat' (vx_isRefq hU'.1) (vx_isRefq hN'.1) hU'.2.word hN'.2.word) (fun x hx => nomatch hx)
    (g := F0 m pc ls rest) rfl hsize hRframes (by show 2 * 0 + (rest.map fun v => v.category).sum + 10240 ≤ R.locals; omega) (by show 0 + 1 ≤ 1; omega) (by show 0 + nb ≤ nb; omega) hlocks
  obtain ⟨f1, f2⟩ := vx_frame Z.same
  have f1' : H.size ≤ S.heap.size := by rw [← hT]; exact f1
  have f2' : ∀ q : Nat, q < H.size → S.heap[q]? = H[q]? := fun q hq => by
    rw [← hT]
    exact f2 q (by rw [← hT] at hq; exact hq) (fun z hz => nomatch hz)
  have X5 := vx_back9 X Y Z
  have X6 : Stand p l e R s m args below meth c S locs (cells + 1) (slots + nb) := { X5 with same := X5.same.mono (by omega) (by omega) }
  obtain ⟨t, a1, b1⟩ := k S.heap q ce f1' f2' ⟨Nat.le_trans hS.1 f1', fun q h1 h2 => (f2' q (Nat.lt_of_lt_of_le h1 hS.1)).trans (hS.2.1 q h1 h2), hS.2.2⟩ hce hv hcl' S rfl X6
  exact ⟨t, st t a1, b1⟩
variable {Q : State → Prop} {cc : ByteArray} {pc : Nat} {ls : Array Slot} {rest : List Value}
theorem vx_idivZ (hexec : p.tables.exec = Jvm.exec) (hb : c.code = cc) {a b : Int32} (h0 : b = 0) (d : decode cc pc = .ok (.idiv, 1)) (k : vx_Note p l e R s m args below meth c H locs cells slots Q (F0 m pc ls rest) "java/lang/ArithmeticException" "/ by zero") :
    W p l e R s m args below meth c H locs cells slots Q (F0 m pc ls (.int b :: .int a :: rest)) := by
  intro T hT X
  obtain ⟨t, st, q⟩ := k T hT X
  exact ⟨t, X.idivZero hexec (g := F0 m pc ls (.int b :: .int a :: rest)) rfl (a := a) (rest := rest) (by rw [h0]) (by rw [hb]; exact d) t st, q⟩
theorem vx_iremZ (hexec : p.tables.exec = Jvm.exec) (hb : c.code = cc) {a b : Int32} (h0 : b = 0) (d : decode cc pc = .ok (.irem, 1)) (k : vx_Note p l e R s m args below meth c H locs cells slots Q (F0 m pc ls rest) "java/lang/ArithmeticException" "/ by zero") :
    W p l e R s m args below meth c H locs cells slots Q (F0 m pc ls (.int b :: .int a :: rest)) := by
  intro T hT X
  obtain ⟨t, st, q⟩ := k T hT X
  exact ⟨t, X.iremZero hexec (g := F0 m pc ls (.int b :: .int a :: rest)) rfl (a := a) (rest := rest) (by rw [h0]) (by rw [hb]; exact d) t st, q⟩
theorem vx_ldivZ (hexec : p.tables.exec = Jvm.exec) (hb : c.code = cc) {a b : Int64} (h0 : b = 0) (d : decode cc pc = .ok (.ldiv, 1)) (k : vx_Note p l e R s m args below meth c H locs cells slots Q (F0 m pc ls rest) "java/lang/ArithmeticException" "/ by zero") :
    W p l e R s m args below meth c H locs cells slots Q (F0 m pc ls (.long b :: .long a :: rest)) := by
  intro T hT X
  obtain ⟨t, st, q⟩ := k T hT X
  exact ⟨t, X.ldivZero hexec (g := F0 m pc ls (.long b :: .long a :: rest)) rfl (a := a) (rest := rest) (by rw [h0]) (by rw [hb]; exact d) t st, q⟩
theorem vx_lremZ (hexec : p.tables.exec = Jvm.exec) (hb : c.code = cc) {a b : Int64} (h0 : b = 0) (d : decode cc pc = .ok (.lrem, 1)) (k : vx_Note p l e R s m args below meth c H locs cells slots Q (F0 m pc ls rest) "java/lang/ArithmeticException" "/ by zero") :
    W p l e R s m args below meth c H locs cells slots Q (F0 m pc ls (.long b :: .long a :: rest)) := by
  intro T hT X
  obtain ⟨t, st, q⟩ := k T hT X
  exact ⟨t, X.lremZero hexec (g := F0 m pc ls (.long b :: .long a :: rest)) rfl (a := a) (rest := rest) (by rw [h0]) (by rw [hb]; exact d) t st, q⟩
theorem vx_ialdZ {D : va_G} {cl : List vw_C} {ws : va_W} {tys : List (ClassId × FieldType)} {a : Nat} (hexec : p.tables.exec = Jvm.exec) (hb : c.code = cc) (hK : va_K D cl tys s) (hP : va_P D cl ws H) (q0 t0 : Nat) {cA : ClassId} {n : Nat} {f : Nat → Int32} (ha : ws[q0]? = some (a, .inl (cA, n, .inl f))) (ht : tys[t0]? = some (cA, .int)) {i : Int32} (hout : ¬ vp_in i n) (hdg : decode cc pc = .ok (.iaload, 1))
    (k : ∀ tx : String, tx = (toString "Index " ++ toString i ++ toString " out of bounds for length " ++ toString n : String) → vx_Note p l e R s m args below meth c H locs cells slots Q (F0 m pc ls rest) "java/lang/ArrayIndexOutOfBoundsException" tx) : W p l e R s m args below meth c H locs cells slots Q (F0 m pc ls (.int i :: .ref a :: rest)) := by
  intro T hT X
  obtain ⟨t, st, q⟩ := k _ rfl T hT X
  refine ⟨t, ?_, q⟩
  have h1 := X.ialoadOut hexec (by rw [hT]; exact hP q0 _ ha) ((hK.2 t0 _ ht).1 n (fun j => .int (f j))) (j := i) (by show (i < 0 ∨ (arrV _ _ _).slots.size ≤ _); rw [arrV_size]; exact Classical.byContradiction hout) (g := F0 m pc ls (.int i :: .ref a :: rest)) rfl (rest := rest) rfl (by rw [hb]; exact hdg) t
  simp only [arrV_size] at h1
  exact h1 st
theorem vx_iastZ {D : va_G} {cl : List vw_C} {ws : va_W} {tys : List (ClassId × FieldType)} {a : Nat} (hexec : p.tables.exec = Jvm.exec) (hb : c.code = cc) (hK : va_K D cl tys s) (hP : va_P D cl ws H) (q0 t0 : Nat) {cA : ClassId} {n : Nat} {f : Nat → Int32} (ha : ws[q0]? = some (a, .inl (cA, n, .inl f))) (ht : tys[t0]? = some (cA, .int)) {i : Int32} {x : Int32} (hout : ¬ vp_in i n) (hdg : decode cc pc = .ok (.iastore, 1))
    (k : ∀ tx : String, tx = (toString "Index " ++ toString i ++ toString " out of bounds for length " ++ toString n : String) → vx_Note p l e R s m args below meth c H locs cells slots Q (F0 m pc ls rest) "java/lang/ArrayIndexOutOfBoundsException" tx) : W p l e R s m args below meth c H locs cells slots Q (F0 m pc ls (.int x :: .int i :: .ref a :: rest)) := by
  intro T hT X
  obtain ⟨t, st, q⟩ := k _ rfl T hT X
  refine ⟨t, ?_, q⟩
  have h1 := X.iastoreOut hexec (by rw [hT]; exact hP q0 _ ha) ((hK.2 t0 _ ht).1 n (fun j => .int (f j))) (j := i) (by show (i < 0 ∨ (arrV _ _ _).slots.size ≤ _); rw [arrV_size]; exact Classical.byContradiction hout) (g := F0 m pc ls (.int x :: .int i :: .ref a :: rest)) rfl (rest := rest) rfl (by rw [hb]; exact hdg) t
  simp only [arrV_size] at h1
  exact h1 st
theorem vx_baldZ {D : va_G} {cl : List vw_C} {ws : va_W} {tys : List (ClassId × FieldType)} {a : Nat} (hexec : p.tables.exec = Jvm.exec) (hb : c.code = cc) (hK : va_K D cl tys s) (hP : va_P D cl ws H) (q0 t0 : Nat) {cA : ClassId} {n : Nat} {f : Nat → Int32} (ha : ws[q0]? = some (a, .inl (cA, n, .inl f))) (ht : tys[t0]? = some (cA, .byte)) {i : Int32} (hout : ¬ vp_in i n) (hdg : decode cc pc = .ok (.baload, 1))
    (k : ∀ tx : String, tx = (toString "Index " ++ toString i ++ toString " out of bounds for length " ++ toString n : String) → vx_Note p l e R s m args below meth c H locs cells slots Q (F0 m pc ls rest) "java/lang/ArrayIndexOutOfBoundsException" tx) : W p l e R s m args below meth c H locs cells slots Q (F0 m pc ls (.int i :: .ref a :: rest)) := by
  intro T hT X
  obtain ⟨t, st, q⟩ := k _ rfl T hT X
  refine ⟨t, ?_, q⟩
  have h1 := X.baloadOut hexec (by rw [hT]; exact hP q0 _ ha) ((hK.2 t0 _ ht).1 n (fun j => .int (f j))) (j := i) (by show (i < 0 ∨ (arrV _ _ _).slots.size ≤ _); rw [arrV_size]; exact Classical.byContradiction hout) (g := F0 m pc ls (.int i :: .ref a :: rest)) rfl (rest := rest) rfl (by rw [hb]; exact hdg) t
  simp only [arrV_size] at h1
  exact h1 st
theorem vx_bastZ {D : va_G} {cl : List vw_C} {ws : va_W} {tys : List (ClassId × FieldType)} {a : Nat} (hexec : p.tables.exec = Jvm.exec) (hb : c.code = cc) (hK : va_K D cl tys s) (hP : va_P D cl ws H) (q0 t0 : Nat) {cA : ClassId} {n : Nat} {f : Nat → Int32} (ha : ws[q0]? = some (a, .inl (cA, n, .inl f))) (ht : tys[t0]? = some (cA, .byte)) {i : Int32} {x : Int32} (hout : ¬ vp_in i n) (hdg : decode cc pc = .ok (.bastore, 1))
    (k : ∀ tx : String, tx = (toString "Index " ++ toString i ++ toString " out of bounds for length " ++ toString n : String) → vx_Note p l e R s m args below meth c H locs cells slots Q (F0 m pc ls rest) "java/lang/ArrayIndexOutOfBoundsException" tx) : W p l e R s m args below meth c H locs cells slots Q (F0 m pc ls (.int x :: .int i :: .ref a :: rest)) := by
  intro T hT X
  obtain ⟨t, st, q⟩ := k _ rfl T hT X
  refine ⟨t, ?_, q⟩
  have h1 := X.bastoreOut hexec (by rw [hT]; exact hP q0 _ ha) ((hK.2 t0 _ ht).1 n (fun j => .int (f j))) (j := i) (by show (i < 0 ∨ (arrV _ _ _).slots.size ≤ _); rw [arrV_size]; exact Classical.byContradiction hout) (g := F0 m pc ls (.int x :: .int i :: .ref a :: rest)) rfl (rest := rest) rfl (by rw [hb]; exact hdg) t
  simp only [arrV_size] at h1
  exact h1 st
theorem vx_zaldZ {D : va_G} {cl : List vw_C} {ws : va_W} {tys : List (ClassId × FieldType)} {a : Nat} (hexec : p.tables.exec = Jvm.exec) (hb : c.code = cc) (hK : va_K D cl tys s) (hP : va_P D cl ws H) (q0 t0 : Nat) {cA : ClassId} {n : Nat} {f : Nat → Int32} (ha : ws[q0]? = some (a, .inl (cA, n, .inl f))) (ht : tys[t0]? = some (cA, .boolean)) {i : Int32} (hout : ¬ vp_in i n) (hdg : decode cc pc = .ok (.baload, 1))
    (k : ∀ tx : String, tx = (toString "Index " ++ toString i ++ toString " out of bounds for length " ++ toString n : String) → vx_Note p l e R s m args below meth c H locs cells slots Q (F0 m pc ls rest) "java/lang/ArrayIndexOutOfBoundsException" tx) : W p l e R s m args below meth c H locs cells slots Q (F0 m pc ls (.int i :: .ref a :: rest)) := by
  intro T hT X
  obtain ⟨t, st, q⟩ := k _ rfl T hT X
  refine ⟨t, ?_, q⟩
  have h1 := X.baloadOut hexec (by rw [hT]; exact hP q0 _ ha) ((hK.2 t0 _ ht).1 n (fun j => .int (f j))) (j := i) (by show (i < 0 ∨ (arrV _ _ _).slots.size ≤ _); rw [arrV_size]; exact Classical.byContradiction hout) (g := F0 m pc ls (.int i :: .ref a :: rest)) rfl (rest := rest) rfl (by rw [hb]; exact hdg) t
  simp only [arrV_size] at h1
  exact h1 st
theorem vx_zastZ {D : va_G} {cl : List vw_C} {ws : va_W} {tys : List (ClassId × FieldType)} {a : Nat} (hexec : p.tables.exec = Jvm.exec) (hb : c.code = cc) (hK : va_K D cl tys s) (hP : va_P D cl ws H) (q0 t0 : Nat) {cA : ClassId} {n : Nat} {f : Nat → Int32} (ha : ws[q0]? = some (a, .inl (cA, n, .inl f))) (ht : tys[t0]? = some (cA, .boolean)) {i : Int32} {x : Int32} (hout : ¬ vp_in i n) (hdg : decode cc pc = .ok (.bastore, 1))
    (k : ∀ tx : String, tx = (toString "Index " ++ toString i ++ toString " out of bounds for length " ++ toString n : String) → vx_Note p l e R s m args below meth c H locs cells slots Q (F0 m pc ls rest) "java/lang/ArrayIndexOutOfBoundsException" tx) : W p l e R s m args below meth c H locs cells slots Q (F0 m pc ls (.int x :: .int i :: .ref a :: rest)) := by
  intro T hT X
  obtain ⟨t, st, q⟩ := k _ rfl T hT X
  refine ⟨t, ?_, q⟩
  have h1 := X.bastoreOut hexec (by rw [hT]; exact hP q0 _ ha) ((hK.2 t0 _ ht).1 n (fun j => .int (f j))) (j := i) (by show (i < 0 ∨ (arrV _ _ _).slots.size ≤ _); rw [arrV_size]; exact Classical.byContradiction hout) (g := F0 m pc ls (.int x :: .int i :: .ref a :: rest)) rfl (rest := rest) rfl (by rw [hb]; exact hdg) t
  simp only [arrV_size] at h1
  exact h1 st
theorem vx_caldZ {D : va_G} {cl : List vw_C} {ws : va_W} {tys : List (ClassId × FieldType)} {a : Nat} (hexec : p.tables.exec = Jvm.exec) (hb : c.code = cc) (hK : va_K D cl tys s) (hP : va_P D cl ws H) (q0 t0 : Nat) {cA : ClassId} {n : Nat} {f : Nat → Int32} (ha : ws[q0]? = some (a, .inl (cA, n, .inl f))) (ht : tys[t0]? = some (cA, .char)) {i : Int32} (hout : ¬ vp_in i n) (hdg : decode cc pc = .ok (.caload, 1))
    (k : ∀ tx : String, tx = (toString "Index " ++ toString i ++ toString " out of bounds for length " ++ toString n : String) → vx_Note p l e R s m args below meth c H locs cells slots Q (F0 m pc ls rest) "java/lang/ArrayIndexOutOfBoundsException" tx) : W p l e R s m args below meth c H locs cells slots Q (F0 m pc ls (.int i :: .ref a :: rest)) := by
  intro T hT X
  obtain ⟨t, st, q⟩ := k _ rfl T hT X
  refine ⟨t, ?_, q⟩
  have h1 := X.caloadOut hexec (by rw [hT]; exact hP q0 _ ha) ((hK.2 t0 _ ht).1 n (fun j => .int (f j))) (j := i) (by show (i < 0 ∨ (arrV _ _ _).slots.size ≤ _); rw [arrV_size]; exact Classical.byContradiction hout) (g := F0 m pc ls (.int i :: .ref a :: rest)) rfl (rest := rest) rfl (by rw [hb]; exact hdg) t
  simp only [arrV_size] at h1
  exact h1 st
theorem vx_castZ {D : va_G} {cl : List vw_C} {ws : va_W} {tys : List (ClassId × FieldType)} {a : Nat} (hexec : p.tables.exec = Jvm.exec) (hb : c.code = cc) (hK : va_K D cl tys s) (hP : va_P D cl ws H) (q0 t0 : Nat) {cA : ClassId} {n : Nat} {f : Nat → Int32} (ha : ws[q0]? = some (a, .inl (cA, n, .inl f))) (ht : tys[t0]? = some (cA, .char)) {i : Int32} {x : Int32} (hout : ¬ vp_in i n) (hdg : decode cc pc = .ok (.castore, 1))
    (k : ∀ tx : String, tx = (toString "Index " ++ toString i ++ toString " out of bounds for length " ++ toString n : String) → vx_Note p l e R s m args below meth c H locs cells slots Q (F0 m pc ls rest) "java/lang/ArrayIndexOutOfBoundsException" tx) : W p l e R s m args below meth c H locs cells slots Q (F0 m pc ls (.int x :: .int i :: .ref a :: rest)) := by
  intro T hT X
  obtain ⟨t, st, q⟩ := k _ rfl T hT X
  refine ⟨t, ?_, q⟩
  have h1 := X.castoreOut hexec (by rw [hT]; exact hP q0 _ ha) ((hK.2 t0 _ ht).1 n (fun j => .int (f j))) (j := i) (by show (i < 0 ∨ (arrV _ _ _).slots.size ≤ _); rw [arrV_size]; exact Classical.byContradiction hout) (g := F0 m pc ls (.int x :: .int i :: .ref a :: rest)) rfl (rest := rest) rfl (by rw [hb]; exact hdg) t
  simp only [arrV_size] at h1
  exact h1 st
theorem vx_saldZ {D : va_G} {cl : List vw_C} {ws : va_W} {tys : List (ClassId × FieldType)} {a : Nat} (hexec : p.tables.exec = Jvm.exec) (hb : c.code = cc) (hK : va_K D cl tys s) (hP : va_P D cl ws H) (q0 t0 : Nat) {cA : ClassId} {n : Nat} {f : Nat → Int32} (ha : ws[q0]? = some (a, .inl (cA, n, .inl f))) (ht : tys[t0]? = some (cA, .short)) {i : Int32} (hout : ¬ vp_in i n) (hdg : decode cc pc = .ok (.saload, 1))
    (k : ∀ tx : String, tx = (toString "Index " ++ toString i ++ toString " out of bounds for length " ++ toString n : String) → vx_Note p l e R s m args below meth c H locs cells slots Q (F0 m pc ls rest) "java/lang/ArrayIndexOutOfBoundsException" tx) : W p l e R s m args below meth c H locs cells slots Q (F0 m pc ls (.int i :: .ref a :: rest)) := by
  intro T hT X
  obtain ⟨t, st, q⟩ := k _ rfl T hT X
  refine ⟨t, ?_, q⟩
  have h1 := X.saloadOut hexec (by rw [hT]; exact hP q0 _ ha) ((hK.2 t0 _ ht).1 n (fun j => .int (f j))) (j := i) (by show (i < 0 ∨ (arrV _ _ _).slots.size ≤ _); rw [arrV_size]; exact Classical.byContradiction hout) (g := F0 m pc ls (.int i :: .ref a :: rest)) rfl (rest := rest) rfl (by rw [hb]; exact hdg) t
  simp only [arrV_size] at h1
  exact h1 st
theorem vx_sastZ {D : va_G} {cl : List vw_C} {ws : va_W} {tys : List (ClassId × FieldType)} {a : Nat} (hexec : p.tables.exec = Jvm.exec) (hb : c.code = cc) (hK : va_K D cl tys s) (hP : va_P D cl ws H) (q0 t0 : Nat) {cA : ClassId} {n : Nat} {f : Nat → Int32} (ha : ws[q0]? = some (a, .inl (cA, n, .inl f))) (ht : tys[t0]? = some (cA, .short)) {i : Int32} {x : Int32} (hout : ¬ vp_in i n) (hdg : decode cc pc = .ok (.sastore, 1))
    (k : ∀ tx : String, tx = (toString "Index " ++ toString i ++ toString " out of bounds for length " ++ toString n : String) → vx_Note p l e R s m args below meth c H locs cells slots Q (F0 m pc ls rest) "java/lang/ArrayIndexOutOfBoundsException" tx) : W p l e R s m args below meth c H locs cells slots Q (F0 m pc ls (.int x :: .int i :: .ref a :: rest)) := by
  intro T hT X
  obtain ⟨t, st, q⟩ := k _ rfl T hT X
  refine ⟨t, ?_, q⟩
  have h1 := X.sastoreOut hexec (by rw [hT]; exact hP q0 _ ha) ((hK.2 t0 _ ht).1 n (fun j => .int (f j))) (j := i) (by show (i < 0 ∨ (arrV _ _ _).slots.size ≤ _); rw [arrV_size]; exact Classical.byContradiction hout) (g := F0 m pc ls (.int x :: .int i :: .ref a :: rest)) rfl (rest := rest) rfl (by rw [hb]; exact hdg) t
  simp only [arrV_size] at h1
  exact h1 st
theorem vx_laldZ {D : va_G} {cl : List vw_C} {ws : va_W} {tys : List (ClassId × FieldType)} {a : Nat} (hexec : p.tables.exec = Jvm.exec) (hb : c.code = cc) (hK : va_K D cl tys s) (hP : va_P D cl ws H) (q0 t0 : Nat) {cA : ClassId} {n : Nat} {f : Nat → Int64} (ha : ws[q0]? = some (a, .inl (cA, n, .inr (.inl f)))) (ht : tys[t0]? = some (cA, .long)) {i : Int32} (hout : ¬ vp_in i n) (hdg : decode cc pc = .ok (.laload, 1))
    (k : ∀ tx : String, tx = (toString "Index " ++ toString i ++ toString " out of bounds for length " ++ toString n : String) → vx_Note p l e R s m args below meth c H locs cells slots Q (F0 m pc ls rest) "java/lang/ArrayIndexOutOfBoundsException" tx) : W p l e R s m args below meth c H locs cells slots Q (F0 m pc ls (.int i :: .ref a :: rest)) := by
  intro T hT X
  obtain ⟨t, st, q⟩ := k _ rfl T hT X
  refine ⟨t, ?_, q⟩
  have h1 := X.laloadOut hexec (by rw [hT]; exact hP q0 _ ha) ((hK.2 t0 _ ht).1 n (fun j => .long (f j))) (j := i) (by show (i < 0 ∨ (arrV _ _ _).slots.size ≤ _); rw [arrV_size]; exact Classical.byContradiction hout) (g := F0 m pc ls (.int i :: .ref a :: rest)) rfl (rest := rest) rfl (by rw [hb]; exact hdg) t
  simp only [arrV_size] at h1
  exact h1 st
theorem vx_lastZ {D : va_G} {cl : List vw_C} {ws : va_W} {tys : List (ClassId × FieldType)} {a : Nat} (hexec : p.tables.exec = Jvm.exec) (hb : c.code = cc) (hK : va_K D cl tys s) (hP : va_P D cl ws H) (q0 t0 : Nat) {cA : ClassId} {n : Nat} {f : Nat → Int64} (ha : ws[q0]? = some (a, .inl (cA, n, .inr (.inl f)))) (ht : tys[t0]? = some (cA, .long)) {i : Int32} {x : Int64} (hout : ¬ vp_in i n) (hdg : decode cc pc = .ok (.lastore, 1))
    (k : ∀ tx : String, tx = (toString "Index " ++ toString i ++ toString " out of bounds for length " ++ toString n : String) → vx_Note p l e R s m args below meth c H locs cells slots Q (F0 m pc ls rest) "java/lang/ArrayIndexOutOfBoundsException" tx) : W p l e R s m args below meth c H locs cells slots Q (F0 m pc ls (.long x :: .int i :: .ref a :: rest)) := by
  intro T hT X
  obtain ⟨t, st, q⟩ := k _ rfl T hT X
  refine ⟨t, ?_, q⟩
  have h1 := X.lastoreOut hexec (by rw [hT]; exact hP q0 _ ha) ((hK.2 t0 _ ht).1 n (fun j => .long (f j))) (j := i) (by show (i < 0 ∨ (arrV _ _ _).slots.size ≤ _); rw [arrV_size]; exact Classical.byContradiction hout) (g := F0 m pc ls (.long x :: .int i :: .ref a :: rest)) rfl (rest := rest) rfl (by rw [hb]; exact hdg) t
  simp only [arrV_size] at h1
  exact h1 st
theorem vx_faldZ {D : va_G} {cl : List vw_C} {ws : va_W} {tys : List (ClassId × FieldType)} {a : Nat} (hexec : p.tables.exec = Jvm.exec) (hb : c.code = cc) (hK : va_K D cl tys s) (hP : va_P D cl ws H) (q0 t0 : Nat) {cA : ClassId} {n : Nat} {f : Nat → UInt32} (ha : ws[q0]? = some (a, .inl (cA, n, .inr (.inr (.inl f))))) (ht : tys[t0]? = some (cA, .float)) {i : Int32} (hout : ¬ vp_in i n) (hdg : decode cc pc = .ok (.faload, 1))
    (k : ∀ tx : String, tx = (toString "Index " ++ toString i ++ toString " out of bounds for length " ++ toString n : String) → vx_Note p l e R s m args below meth c H locs cells slots Q (F0 m pc ls rest) "java/lang/ArrayIndexOutOfBoundsException" tx) : W p l e R s m args below meth c H locs cells slots Q (F0 m pc ls (.int i :: .ref a :: rest)) := by
  intro T hT X
  obtain ⟨t, st, q⟩ := k _ rfl T hT X
  refine ⟨t, ?_, q⟩
  have h1 := X.faloadOut hexec (by rw [hT]; exact hP q0 _ ha) ((hK.2 t0 _ ht).1 n (fun j => .float (f j))) (j := i) (by show (i < 0 ∨ (arrV _ _ _).slots.size ≤ _); rw [arrV_size]; exact Classical.byContradiction hout) (g := F0 m pc ls (.int i :: .ref a :: rest)) rfl (rest := rest) rfl (by rw [hb]; exact hdg) t
  simp only [arrV_size] at h1
  exact h1 st
theorem vx_fastZ {D : va_G} {cl : List vw_C} {ws : va_W} {tys : List (ClassId × FieldType)} {a : Nat} (hexec : p.tables.exec = Jvm.exec) (hb : c.code = cc) (hK : va_K D cl tys s) (hP : va_P D cl ws H) (q0 t0 : Nat) {cA : ClassId} {n : Nat} {f : Nat → UInt32} (ha : ws[q0]? = some (a, .inl (cA, n, .inr (.inr (.inl f))))) (ht : tys[t0]? = some (cA, .float)) {i : Int32} {x : UInt32} (hout : ¬ vp_in i n) (hdg : decode cc pc = .ok (.fastore, 1))
    (k : ∀ tx : String, tx = (toString "Index " ++ toString i ++ toString " out of bounds for length " ++ toString n : String) → vx_Note p l e R s m args below meth c H locs cells slots Q (F0 m pc ls rest) "java/lang/ArrayIndexOutOfBoundsException" tx) : W p l e R s m args below meth c H locs cells slots Q (F0 m pc ls (.float x :: .int i :: .ref a :: rest)) := by
  intro T hT X
  obtain ⟨t, st, q⟩ := k _ rfl T hT X
  refine ⟨t, ?_, q⟩
  have h1 := X.fastoreOut hexec (by rw [hT]; exact hP q0 _ ha) ((hK.2 t0 _ ht).1 n (fun j => .float (f j))) (j := i) (by show (i < 0 ∨ (arrV _ _ _).slots.size ≤ _); rw [arrV_size]; exact Classical.byContradiction hout) (g := F0 m pc ls (.float x :: .int i :: .ref a :: rest)) rfl (rest := rest) rfl (by rw [hb]; exact hdg) t
  simp only [arrV_size] at h1
  exact h1 st
theorem vx_daldZ {D : va_G} {cl : List vw_C} {ws : va_W} {tys : List (ClassId × FieldType)} {a : Nat} (hexec : p.tables.exec = Jvm.exec) (hb : c.code = cc) (hK : va_K D cl tys s) (hP : va_P D cl ws H) (q0 t0 : Nat) {cA : ClassId} {n : Nat} {f : Nat → UInt64} (ha : ws[q0]? = some (a, .inl (cA, n, .inr (.inr (.inr (.inl f)))))) (ht : tys[t0]? = some (cA, .double)) {i : Int32} (hout : ¬ vp_in i n) (hdg : decode cc pc = .ok (.daload, 1))
    (k : ∀ tx : String, tx = (toString "Index " ++ toString i ++ toString " out of bounds for length " ++ toString n : String) → vx_Note p l e R s m args below meth c H locs cells slots Q (F0 m pc ls rest) "java/lang/ArrayIndexOutOfBoundsException" tx) : W p l e R s m args below meth c H locs cells slots Q (F0 m pc ls (.int i :: .ref a :: rest)) := by
  intro T hT X
  obtain ⟨t, st, q⟩ := k _ rfl T hT X
  refine ⟨t, ?_, q⟩
  have h1 := X.daloadOut hexec (by rw [hT]; exact hP q0 _ ha) ((hK.2 t0 _ ht).1 n (fun j => .double (f j))) (j := i) (by show (i < 0 ∨ (arrV _ _ _).slots.size ≤ _); rw [arrV_size]; exact Classical.byContradiction hout) (g := F0 m pc ls (.int i :: .ref a :: rest)) rfl (rest := rest) rfl (by rw [hb]; exact hdg) t
  simp only [arrV_size] at h1
  exact h1 st
theorem vx_dastZ {D : va_G} {cl : List vw_C} {ws : va_W} {tys : List (ClassId × FieldType)} {a : Nat} (hexec : p.tables.exec = Jvm.exec) (hb : c.code = cc) (hK : va_K D cl tys s) (hP : va_P D cl ws H) (q0 t0 : Nat) {cA : ClassId} {n : Nat} {f : Nat → UInt64} (ha : ws[q0]? = some (a, .inl (cA, n, .inr (.inr (.inr (.inl f)))))) (ht : tys[t0]? = some (cA, .double)) {i : Int32} {x : UInt64} (hout : ¬ vp_in i n) (hdg : decode cc pc = .ok (.dastore, 1))
    (k : ∀ tx : String, tx = (toString "Index " ++ toString i ++ toString " out of bounds for length " ++ toString n : String) → vx_Note p l e R s m args below meth c H locs cells slots Q (F0 m pc ls rest) "java/lang/ArrayIndexOutOfBoundsException" tx) : W p l e R s m args below meth c H locs cells slots Q (F0 m pc ls (.double x :: .int i :: .ref a :: rest)) := by
  intro T hT X
  obtain ⟨t, st, q⟩ := k _ rfl T hT X
  refine ⟨t, ?_, q⟩
  have h1 := X.dastoreOut hexec (by rw [hT]; exact hP q0 _ ha) ((hK.2 t0 _ ht).1 n (fun j => .double (f j))) (j := i) (by show (i < 0 ∨ (arrV _ _ _).slots.size ≤ _); rw [arrV_size]; exact Classical.byContradiction hout) (g := F0 m pc ls (.double x :: .int i :: .ref a :: rest)) rfl (rest := rest) rfl (by rw [hb]; exact hdg) t
  simp only [arrV_size] at h1
  exact h1 st
theorem vx_arraylengthN (hexec : p.tables.exec = Jvm.exec) (hb : c.code = cc) (hdg : decode cc pc = .ok (.arraylength, 1)) (k : vx_NoteN p l e R s m args below meth c H locs cells slots Q (F0 m pc ls rest)) : W p l e R s m args below meth c H locs cells slots Q (F0 m pc ls (.null :: rest)) := by
  intro T hT X
  obtain ⟨t, st, q⟩ := k T hT X
  exact ⟨t, X.arraylengthNull hexec (g := F0 m pc ls (.null :: rest)) rfl (rest := rest) rfl (by rw [hb]; exact hdg) t st, q⟩
theorem vx_ialoadN (hexec : p.tables.exec = Jvm.exec) (hb : c.code = cc) {i : Int32} (hdg : decode cc pc = .ok (.iaload, 1)) (k : vx_NoteN p l e R s m args below meth c H locs cells slots Q (F0 m pc ls rest)) : W p l e R s m args below meth c H locs cells slots Q (F0 m pc ls (.int i :: .null :: rest)) := by
  intro T hT X
  obtain ⟨t, st, q⟩ := k T hT X
  exact ⟨t, X.ialoadNull hexec (g := F0 m pc ls (.int i :: .null :: rest)) rfl (rest := rest) rfl (by rw [hb]; exact hdg) t st, q⟩
theorem vx_laloadN (hexec : p.tables.exec = Jvm.exec) (hb : c.code = cc) {i : Int32} (hdg : decode cc pc = .ok (.laload, 1)) (k : vx_NoteN p l e R s m args below meth c H locs cells slots Q (F0 m pc ls rest)) : W p l e R s m args below meth c H locs cells slots Q (F0 m pc ls (.int i :: .null :: rest)) := by
  intro T hT X
  obtain ⟨t, st, q⟩ := k T hT X
  exact ⟨t, X.laloadNull hexec (g := F0 m pc ls (.int i :: .null :: rest)) rfl (rest := rest) rfl (by rw [hb]; exact hdg) t st, q⟩
theorem vx_faloadN (hexec : p.tables.exec = Jvm.exec) (hb : c.code = cc) {i : Int32} (hdg : decode cc pc = .ok (.faload, 1)) (k : vx_NoteN p l e R s m args below meth c H locs cells slots Q (F0 m pc ls rest)) : W p l e R s m args below meth c H locs cells slots Q (F0 m pc ls (.int i :: .null :: rest)) := by
  intro T hT X
  obtain ⟨t, st, q⟩ := k T hT X
  exact ⟨t, X.faloadNull hexec (g := F0 m pc ls (.int i :: .null :: rest)) rfl (rest := rest) rfl (by rw [hb]; exact hdg) t st, q⟩
theorem vx_daloadN (hexec : p.tables.exec = Jvm.exec) (hb : c.code = cc) {i : Int32} (hdg : decode cc pc = .ok (.daload, 1)) (k : vx_NoteN p l e R s m args below meth c H locs cells slots Q (F0 m pc ls rest)) : W p l e R s m args below meth c H locs cells slots Q (F0 m pc ls (.int i :: .null :: rest)) := by
  intro T hT X
  obtain ⟨t, st, q⟩ := k T hT X
  exact ⟨t, X.daloadNull hexec (g := F0 m pc ls (.int i :: .null :: rest)) rfl (rest := rest) rfl (by rw [hb]; exact hdg) t st, q⟩
theorem vx_aaloadN (hexec : p.tables.exec = Jvm.exec) (hb : c.code = cc) {i : Int32} (hdg : decode cc pc = .ok (.aaload, 1)) (k : vx_NoteN p l e R s m args below meth c H locs cells slots Q (F0 m pc ls rest)) : W p l e R s m args below meth c H locs cells slots Q (F0 m pc ls (.int i :: .null :: rest)) := by
  intro T hT X
  obtain ⟨t, st, q⟩ := k T hT X
  exact ⟨t, X.aaloadNull hexec (g := F0 m pc ls (.int i :: .null :: rest)) rfl (rest := rest) rfl (by rw [hb]; exact hdg) t st, q⟩
theorem vx_baloadN (hexec : p.tables.exec = Jvm.exec) (hb : c.code = cc) {i : Int32} (hdg : decode cc pc = .ok (.baload, 1)) (k : vx_NoteN p l e R s m args below meth c H locs cells slots Q (F0 m pc ls rest)) : W p l e R s m args below meth c H locs cells slots Q (F0 m pc ls (.int i :: .null :: rest)) := by
  intro T hT X
  obtain ⟨t, st, q⟩ := k T hT X
  exact ⟨t, X.baloadNull hexec (g := F0 m pc ls (.int i :: .null :: rest)) rfl (rest := rest) rfl (by rw [hb]; exact hdg) t st, q⟩
theorem vx_caloadN (hexec : p.tables.exec = Jvm.exec) (hb : c.code = cc) {i : Int32} (hdg : decode cc pc = .ok (.caload, 1)) (k : vx_NoteN p l e R s m args below meth c H locs cells slots Q (F0 m pc ls rest)) : W p l e R s m args below meth c H locs cells slots Q (F0 m pc ls (.int i :: .null :: rest)) := by
  intro T hT X
  obtain ⟨t, st, q⟩ := k T hT X
  exact ⟨t, X.caloadNull hexec (g := F0 m pc ls (.int i :: .null :: rest)) rfl (rest := rest) rfl (by rw [hb]; exact hdg) t st, q⟩
theorem vx_saloadN (hexec : p.tables.exec = Jvm.exec) (hb : c.code = cc) {i : Int32} (hdg : decode cc pc = .ok (.saload, 1)) (k : vx_NoteN p l e R s m args below meth c H locs cells slots Q (F0 m pc ls rest)) : W p l e R s m args below meth c H locs cells slots Q (F0 m pc ls (.int i :: .null :: rest)) := by
  intro T hT X
  obtain ⟨t, st, q⟩ := k T hT X
  exact ⟨t, X.saloadNull hexec (g := F0 m pc ls (.int i :: .null :: rest)) rfl (rest := rest) rfl (by rw [hb]; exact hdg) t st, q⟩
theorem vx_iastoreN (hexec : p.tables.exec = Jvm.exec) (hb : c.code = cc) {x : Int32} {i : Int32} (hdg : decode cc pc = .ok (.iastore, 1)) (k : vx_NoteN p l e R s m args below meth c H locs cells slots Q (F0 m pc ls rest)) : W p l e R s m args below meth c H locs cells slots Q (F0 m pc ls (.int x :: .int i :: .null :: rest)) := by
  intro T hT X
  obtain ⟨t, st, q⟩ := k T hT X
  exact ⟨t, X.iastoreNull hexec (g := F0 m pc ls (.int x :: .int i :: .null :: rest)) rfl (rest := rest) rfl (by rw [hb]; exact hdg) t st, q⟩
theorem vx_lastoreN (hexec : p.tables.exec = Jvm.exec) (hb : c.code = cc) {x : Int64} {i : Int32} (hdg : decode cc pc = .ok (.lastore, 1)) (k : vx_NoteN p l e R s m args below meth c H locs cells slots Q (F0 m pc ls rest)) : W p l e R s m args below meth c H locs cells slots Q (F0 m pc ls (.long x :: .int i :: .null :: rest)) := by
  intro T hT X
  obtain ⟨t, st, q⟩ := k T hT X
  exact ⟨t, X.lastoreNull hexec (g := F0 m pc ls (.long x :: .int i :: .null :: rest)) rfl (rest := rest) rfl (by rw [hb]; exact hdg) t st, q⟩
theorem vx_fastoreN (hexec : p.tables.exec = Jvm.exec) (hb : c.code = cc) {x : UInt32} {i : Int32} (hdg : decode cc pc = .ok (.fastore, 1)) (k : vx_NoteN p l e R s m args below meth c H locs cells slots Q (F0 m pc ls rest)) : W p l e R s m args below meth c H locs cells slots Q (F0 m pc ls (.float x :: .int i :: .null :: rest)) := by
  intro T hT X
  obtain ⟨t, st, q⟩ := k T hT X
  exact ⟨t, X.fastoreNull hexec (g := F0 m pc ls (.float x :: .int i :: .null :: rest)) rfl (rest := rest) rfl (by rw [hb]; exact hdg) t st, q⟩
theorem vx_dastoreN (hexec : p.tables.exec = Jvm.exec) (hb : c.code = cc) {x : UInt64} {i : Int32} (hdg : decode cc pc = .ok (.dastore, 1)) (k : vx_NoteN p l e R s m args below meth c H locs cells slots Q (F0 m pc ls rest)) : W p l e R s m args below meth c H locs cells slots Q (F0 m pc ls (.double x :: .int i :: .null :: rest)) := by
  intro T hT X
  obtain ⟨t, st, q⟩ := k T hT X
  exact ⟨t, X.dastoreNull hexec (g := F0 m pc ls (.double x :: .int i :: .null :: rest)) rfl (rest := rest) rfl (by rw [hb]; exact hdg) t st, q⟩
theorem vx_bastoreN (hexec : p.tables.exec = Jvm.exec) (hb : c.code = cc) {x : Int32} {i : Int32} (hdg : decode cc pc = .ok (.bastore, 1)) (k : vx_NoteN p l e R s m args below meth c H locs cells slots Q (F0 m pc ls rest)) : W p l e R s m args below meth c H locs cells slots Q (F0 m pc ls (.int x :: .int i :: .null :: rest)) := by
  intro T hT X
  obtain ⟨t, st, q⟩ := k T hT X
  exact ⟨t, X.bastoreNull hexec (g := F0 m pc ls (.int x :: .int i :: .null :: rest)) rfl (rest := rest) rfl (by rw [hb]; exact hdg) t st, q⟩
theorem vx_castoreN (hexec : p.tables.exec = Jvm.exec) (hb : c.code = cc) {x : Int32} {i : Int32} (hdg : decode cc pc = .ok (.castore, 1)) (k : vx_NoteN p l e R s m args below meth c H locs cells slots Q (F0 m pc ls rest)) : W p l e R s m args below meth c H locs cells slots Q (F0 m pc ls (.int x :: .int i :: .null :: rest)) := by
  intro T hT X
  obtain ⟨t, st, q⟩ := k T hT X
  exact ⟨t, X.castoreNull hexec (g := F0 m pc ls (.int x :: .int i :: .null :: rest)) rfl (rest := rest) rfl (by rw [hb]; exact hdg) t st, q⟩
theorem vx_sastoreN (hexec : p.tables.exec = Jvm.exec) (hb : c.code = cc) {x : Int32} {i : Int32} (hdg : decode cc pc = .ok (.sastore, 1)) (k : vx_NoteN p l e R s m args below meth c H locs cells slots Q (F0 m pc ls rest)) : W p l e R s m args below meth c H locs cells slots Q (F0 m pc ls (.int x :: .int i :: .null :: rest)) := by
  intro T hT X
  obtain ⟨t, st, q⟩ := k T hT X
  exact ⟨t, X.sastoreNull hexec (g := F0 m pc ls (.int x :: .int i :: .null :: rest)) rfl (rest := rest) rfl (by rw [hb]; exact hdg) t st, q⟩
theorem vx_invokeN {own C : String} {index maxL : Nat} {y : MethodName} {bytes : ByteArray} {ret : Option FieldType} (hexec : p.tables.exec = Jvm.exec) (hb : c.code = cc) (hown : s.vm.findClass own = some m.cls) (hlink : (Cond.methodLink own index y).before args s = true) (hinst : (Cond.instanceMethod y).before args s = true) (hcode : (Cond.code y bytes maxL ret).before args s = true) (hsel : (Cond.selects C y y).before args s = true)
    (hx : y.cls ≠ "java/lang/invoke/MethodHandle" ∧ y.cls ≠ "java/lang/invoke/VarHandle") {As : List Value} (hlen : (parseMethodDescriptor y.desc).map (fun d => d.parameters.length) = some As.length) (hdg : decode cc pc = .ok (.invokevirtual index, 3))
    (k : vx_NoteN p l e R s m args below meth c H locs cells slots Q (F0 m pc ls rest)) {st0 : List Value} (hst : st0 = As.reverse ++ .null :: rest) : W p l e R s m args below meth c H locs cells slots Q (F0 m pc ls st0) := by
  intro T hT X
  obtain ⟨r0, r, hn, hrm, hstR, hsigR⟩ := va_Decl.of hinst hcode
  obtain ⟨c2, r2, m2, q1, q2, q3, q4, kP, hkP, hkPi⟩ := Cond.selects_spec hsel
  cases hn.symm.trans q3
  have hl9 : As.length = r.sig.parameters.length := by
    rw [hsigR] at hlen
    exact (Option.some.inj hlen).symm
  obtain ⟨vm', X1, st1⟩ := X.invokevirtualNull hexec hown hlink hn hrm hstR hkP hkPi hx (g := F0 m pc ls st0) rfl (argsL := As) (rest := rest) hl9 hst (by rw [hb]; exact hdg)
  obtain ⟨t, st, q⟩ := k (T.setVm vm') hT X1
  exact ⟨t, st1 t st, q⟩
theorem vx_newarrayZ {atype : ArrayType} (hexec : p.tables.exec = Jvm.exec) (hb : c.code = cc) {n : Int32} (h0 : n < 0) (hdg : decode cc pc = .ok (.newarray atype, 2)) (k : ∀ tx : String, tx = toString n → vx_Note p l e R s m args below meth c H locs cells slots Q (F0 m pc ls rest) "java/lang/NegativeArraySizeException" tx) : W p l e R s m args below meth c H locs cells slots Q (F0 m pc ls (.int n :: rest)) := by
  intro T hT X
  obtain ⟨t, st, q⟩ := k _ rfl T hT X
  exact ⟨t, X.newarrayNegative hexec (g := F0 m pc ls (.int n :: rest)) rfl h0 (rest := rest) rfl (by rw [hb]; exact hdg) t st, q⟩
end
end VXM
/-! ===== END ===== -/

/-! the words of an exception whose constructor of a text names its parent's by another place of its pool (NoSuchElementException: 13) -/
def nx_code : ByteArray := ⟨#[0x2a, 0x2b, 0xb7, 0x00, 0x0d, 0xb1]⟩
def nx_chain (X : String) : List String → List Cond
  | [] => Bundle.passSAtoms X Bundle.tN 13 nx_code
  | Y :: r => Bundle.passSAtoms X Y 13 nx_code ++ Bundle.chainSAtoms Y r
def nx_own (own : String) (ic : Nat) (X : String) (names : List String) : List Cond :=
  Bundle.throwableAtoms ++ Bundle.throwableSAtoms ++ nx_chain X names ++
  [.methodLink own ic (Bundle.initS X), .instantiable X 6, .castable X X, .selects X Bundle.tFill0 Bundle.tFill0, .selects X Bundle.tFill Bundle.tFill,
   .lays X Bundle.tN "cause" "Ljava/lang/Throwable;", .lays X Bundle.tN "stackTrace" Bundle.steD, .lays X Bundle.tN "suppressedExceptions" Bundle.listD, .lays X Bundle.tN "detailMessage" "Ljava/lang/String;",
   .isRef (.static Bundle.tN "UNASSIGNED_STACK" Bundle.steD), .isRef (.static Bundle.tN "SUPPRESSED_SENTINEL" Bundle.listD),
   .fieldLink Bundle.tN 198 Bundle.tN "backtrace" "Ljava/lang/Object;", .lays Bundle.tN Bundle.tN "backtrace" "Ljava/lang/Object;", .lays X Bundle.tN "backtrace" "Ljava/lang/Object;"]
def nx_atS (own : String) (ic : Nat) (X : String) (names : List String) : List Cond := (nx_own own ic X names).filter vx_no
end
section
/-! ===== BEGIN printed: names, fields, word lists, decode rows ===== -/
def RX0 : String := "PaperMachine$Contract"
def TX0 : u_T := fun k => match k with
  | 0 => ("PaperMachine$Contract", "limit", "I", false)
  | 1 => ("PaperMachine$Contract", "firstPrice", "I", false)
  | _ => ("PaperMachine$Contract", "secondPrice", "I", false)
def tyX0 : Nat → FieldType := fun k => match k with
  | 0 => .int
  | 1 => .int
  | _ => .int
abbrev wsX00 : List Cond := u_ws RX0 TX0 3
theorem nmX0 : ∀ a, a < 3 → ∀ b, b < 3 → a ≠ b → (TX0 a).2.1 ≠ (TX0 b).2.1 := by decide +kernel
theorem tyX0_ok : ∀ k, k < 3 → parseFieldDescriptor (TX0 k).2.2.1 = some (tyX0 k) := by decide +kernel
abbrev cX0_init : ByteArray := prog_2_method_1_code
def yX0_init : MethodName := ⟨RX0, "<init>", "()V"⟩
abbrev cX0_cost : ByteArray := prog_2_method_2_code
def yX0_cost : MethodName := ⟨RX0, "cost", "(I)J"⟩
def RX1 : String := "PaperMachine$Cutter"
def TX1 : u_T := fun k => match k with
  | 0 => ("PaperMachine$Cutter", "best", "[I", true)
  | 1 => ("PaperMachine$Cutter", "trial", "[I", true)
  | 2 => ("PaperMachine$Cutter", "widths", "[I", true)
  | 3 => ("PaperMachine$Cutter", "mostRolls", "[I", true)
  | 4 => ("PaperMachine$Cutter", "widestFrom", "[I", true)
  | 5 => ("PaperMachine$Cutter", "fewest", "[I", true)
  | 6 => ("PaperMachine$Cutter", "room", "I", false)
  | _ => ("PaperMachine$Cutter", "bestSum", "I", false)
def tyX1 : Nat → FieldType := fun k => match k with
  | 0 => .array .int
  | 1 => .array .int
  | 2 => .array .int
  | 3 => .array .int
  | 4 => .array .int
  | 5 => .array .int
  | 6 => .int
  | _ => .int
abbrev wsX10 : List Cond := u_ws RX1 TX1 8
theorem nmX1 : ∀ a, a < 8 → ∀ b, b < 8 → a ≠ b → (TX1 a).2.1 ≠ (TX1 b).2.1 := by decide +kernel
theorem tyX1_ok : ∀ k, k < 8 → parseFieldDescriptor (TX1 k).2.2.1 = some (tyX1 k) := by decide +kernel
abbrev cX1_init : ByteArray := prog_3_method_1_code
def yX1_init : MethodName := ⟨RX1, "<init>", "()V"⟩
abbrev cX1_load : ByteArray := prog_3_method_2_code
def yX1_load : MethodName := ⟨RX1, "load", "(LPaperMachine$OrderBook;II)V"⟩
abbrev cX1_sumBySearch : ByteArray := prog_3_method_3_code
def yX1_sumBySearch : MethodName := ⟨RX1, "sumBySearch", "()I"⟩
abbrev cX1_search : ByteArray := prog_3_method_4_code
def yX1_search : MethodName := ⟨RX1, "search", "(LPaperMachine$Cutter;III)V"⟩
abbrev cX1_keepIfGreater : ByteArray := prog_3_method_5_code
def yX1_keepIfGreater : MethodName := ⟨RX1, "keepIfGreater", "(I)V"⟩
abbrev cX1_sumByTable : ByteArray := prog_3_method_6_code
def yX1_sumByTable : MethodName := ⟨RX1, "sumByTable", "()I"⟩
abbrev cX1_addRollToTable : ByteArray := prog_3_method_7_code
def yX1_addRollToTable : MethodName := ⟨RX1, "addRollToTable", "(I)V"⟩
def RX2 : String := "PaperMachine$HourBook"
def TX2 : u_T := fun k => match k with
  | 0 => ("PaperMachine$HourBook", "kinds", "[C", true)
  | 1 => ("PaperMachine$HourBook", "freshIn", "[I", true)
  | 2 => ("PaperMachine$HourBook", "paperOut", "[I", true)
  | 3 => ("PaperMachine$HourBook", "lossOut", "[I", true)
  | 4 => ("PaperMachine$HourBook", "count", "I", false)
  | 5 => ("PaperMachine$HourBook", "freshSum", "J", false)
  | 6 => ("PaperMachine$HourBook", "paperSum", "J", false)
  | 7 => ("PaperMachine$HourBook", "lossSum", "J", false)
  | 8 => ("PaperMachine$HourBook", "massSum", "J", false)
  | 9 => ("PaperMachine$HourBook", "trimSum", "J", false)
  | _ => ("PaperMachine$HourBook", "paperHours", "I", false)
def tyX2 : Nat → FieldType := fun k => match k with
  | 0 => .array .char
  | 1 => .array .int
  | 2 => .array .int
  | 3 => .array .int
  | 4 => .int
  | 5 => .long
  | 6 => .long
  | 7 => .long
  | 8 => .long
  | 9 => .long
  | _ => .int
abbrev wsX20 : List Cond := u_ws RX2 TX2 11
theorem nmX2 : ∀ a, a < 11 → ∀ b, b < 11 → a ≠ b → (TX2 a).2.1 ≠ (TX2 b).2.1 := by decide +kernel
theorem tyX2_ok : ∀ k, k < 11 → parseFieldDescriptor (TX2 k).2.2.1 = some (tyX2 k) := by decide +kernel
abbrev cX2_init : ByteArray := prog_4_method_1_code
def yX2_init : MethodName := ⟨RX2, "<init>", "()V"⟩
abbrev cX2_has : ByteArray := prog_4_method_2_code
def yX2_has : MethodName := ⟨RX2, "has", "(I)Z"⟩
abbrev cX2_writeNothing : ByteArray := prog_4_method_3_code
def yX2_writeNothing : MethodName := ⟨RX2, "writeNothing", "()V"⟩
abbrev cX2_writeMade : ByteArray := prog_4_method_4_code
def yX2_writeMade : MethodName := ⟨RX2, "writeMade", "(CIII)V"⟩
abbrev cX2_writeTrim : ByteArray := prog_4_method_5_code
def yX2_writeTrim : MethodName := ⟨RX2, "writeTrim", "(I)V"⟩
abbrev cX2_fibreStillThere : ByteArray := prog_4_method_6_code
def yX2_fibreStillThere : MethodName := ⟨RX2, "fibreStillThere", "()I"⟩
def RX3 : String := "PaperMachine$OrderBook"
def TX3 : u_T := fun k => match k with
  | 0 => ("PaperMachine$OrderBook", "grades", "[I", true)
  | 1 => ("PaperMachine$OrderBook", "widths", "[I", true)
  | 2 => ("PaperMachine$OrderBook", "rollsCut", "[I", true)
  | 3 => ("PaperMachine$OrderBook", "lacking", "[I", true)
  | _ => ("PaperMachine$OrderBook", "count", "I", false)
def tyX3 : Nat → FieldType := fun k => match k with
  | 0 => .array .int
  | 1 => .array .int
  | 2 => .array .int
  | 3 => .array .int
  | _ => .int
abbrev wsX30 : List Cond := u_ws RX3 TX3 5
theorem nmX3 : ∀ a, a < 5 → ∀ b, b < 5 → a ≠ b → (TX3 a).2.1 ≠ (TX3 b).2.1 := by decide +kernel
theorem tyX3_ok : ∀ k, k < 5 → parseFieldDescriptor (TX3 k).2.2.1 = some (tyX3 k) := by decide +kernel
abbrev cX3_init : ByteArray := prog_5_method_1_code
def yX3_init : MethodName := ⟨RX3, "<init>", "()V"⟩
abbrev cX3_has : ByteArray := prog_5_method_2_code
def yX3_has : MethodName := ⟨RX3, "has", "(I)Z"⟩
abbrev cX3_isFull : ByteArray := prog_5_method_3_code
def yX3_isFull : MethodName := ⟨RX3, "isFull", "()Z"⟩
abbrev cX3_write : ByteArray := prog_5_method_4_code
def yX3_write : MethodName := ⟨RX3, "write", "(III)I"⟩
abbrev cX3_widestOpen : ByteArray := prog_5_method_5_code
def yX3_widestOpen : MethodName := ⟨RX3, "widestOpen", "()I"⟩
abbrev cX3_rollsLacking : ByteArray := prog_5_method_6_code
def yX3_rollsLacking : MethodName := ⟨RX3, "rollsLacking", "(I)I"⟩
abbrev cX3_widthLacking : ByteArray := prog_5_method_7_code
def yX3_widthLacking : MethodName := ⟨RX3, "widthLacking", "(I)I"⟩
abbrev cX3_takeOff : ByteArray := prog_5_method_8_code
def yX3_takeOff : MethodName := ⟨RX3, "takeOff", "([I)I"⟩
def RX4 : String := "PaperMachine"
def TX4 : u_T := fun k => match k with
  | 0 => ("PaperMachine", "weights", "[I", true)
  | 1 => ("PaperMachine", "gradeCount", "I", false)
  | 2 => ("PaperMachine", "machineWidth", "I", false)
  | 3 => ("PaperMachine", "machineGrade", "I", false)
  | 4 => ("PaperMachine", "changeHours", "I", false)
  | 5 => ("PaperMachine", "upward", "Z", false)
  | 6 => ("PaperMachine", "orderBook", "LPaperMachine$OrderBook;", true)
  | 7 => ("PaperMachine", "cutter", "LPaperMachine$Cutter;", true)
  | 8 => ("PaperMachine", "contract", "LPaperMachine$Contract;", true)
  | 9 => ("PaperMachine", "hourBook", "LPaperMachine$HourBook;", true)
  | 10 => ("PaperMachine", "share", "I", false)
  | 11 => ("PaperMachine", "brokeKept", "I", false)
  | _ => ("PaperMachine", "steamSum", "J", false)
def tyX4 : Nat → FieldType := fun k => match k with
  | 0 => .array .int
  | 1 => .int
  | 2 => .int
  | 3 => .int
  | 4 => .int
  | 5 => .boolean
  | 6 => .object "PaperMachine$OrderBook"
  | 7 => .object "PaperMachine$Cutter"
  | 8 => .object "PaperMachine$Contract"
  | 9 => .object "PaperMachine$HourBook"
  | 10 => .int
  | 11 => .int
  | _ => .long
abbrev wsX40 : List Cond := u_ws RX4 TX4 13
theorem nmX4 : ∀ a, a < 13 → ∀ b, b < 13 → a ≠ b → (TX4 a).2.1 ≠ (TX4 b).2.1 := by decide +kernel
theorem tyX4_ok : ∀ k, k < 13 → parseFieldDescriptor (TX4 k).2.2.1 = some (tyX4 k) := by decide +kernel
abbrev cX4_init : ByteArray := prog_1_method_1_code
def yX4_init : MethodName := ⟨RX4, "<init>", "()V"⟩
abbrev cX4_addGrade : ByteArray := prog_1_method_2_code
def yX4_addGrade : MethodName := ⟨RX4, "addGrade", "(I)I"⟩
abbrev cX4_setWidth : ByteArray := prog_1_method_3_code
def yX4_setWidth : MethodName := ⟨RX4, "setWidth", "(I)I"⟩
abbrev cX4_change : ByteArray := prog_1_method_4_code
def yX4_change : MethodName := ⟨RX4, "change", "(I)I"⟩
abbrev cX4_grade : ByteArray := prog_1_method_5_code
def yX4_grade : MethodName := ⟨RX4, "grade", "()I"⟩
abbrev cX4_changing : ByteArray := prog_1_method_6_code
def yX4_changing : MethodName := ⟨RX4, "changing", "()I"⟩
abbrev cX4_next : ByteArray := prog_1_method_7_code
def yX4_next : MethodName := ⟨RX4, "next", "()I"⟩
abbrev cX4_mass : ByteArray := prog_1_method_8_code
def yX4_mass : MethodName := ⟨RX4, "mass", "(I)I"⟩
abbrev cX4_order : ByteArray := prog_1_method_9_code
def yX4_order : MethodName := ⟨RX4, "order", "(III)I"⟩
abbrev cX4_cancel : ByteArray := prog_1_method_10_code
def yX4_cancel : MethodName := ⟨RX4, "cancel", "(I)I"⟩
abbrev cX4_cut : ByteArray := prog_1_method_11_code
def yX4_cut : MethodName := ⟨RX4, "cut", "(I)I"⟩
abbrev cX4_lacks : ByteArray := prog_1_method_12_code
def yX4_lacks : MethodName := ⟨RX4, "lacks", "(I)I"⟩
abbrev cX4_trim : ByteArray := prog_1_method_13_code
def yX4_trim : MethodName := ⟨RX4, "trim", "(I)I"⟩
abbrev cX4_trimByTable : ByteArray := prog_1_method_14_code
def yX4_trimByTable : MethodName := ⟨RX4, "trimByTable", "(I)I"⟩
abbrev cX4_inCut : ByteArray := prog_1_method_15_code
def yX4_inCut : MethodName := ⟨RX4, "inCut", "(I)I"⟩
abbrev cX4_leastHours : ByteArray := prog_1_method_16_code
def yX4_leastHours : MethodName := ⟨RX4, "leastHours", "(I)I"⟩
abbrev cX4_setShare : ByteArray := prog_1_method_17_code
def yX4_setShare : MethodName := ⟨RX4, "setShare", "(I)I"⟩
abbrev cX4_setContract : ByteArray := prog_1_method_18_code
def yX4_setContract : MethodName := ⟨RX4, "setContract", "(III)I"⟩
abbrev cX4_pass : ByteArray := prog_1_method_19_code
def yX4_pass : MethodName := ⟨RX4, "pass", "(I)I"⟩
abbrev cX4_hours : ByteArray := prog_1_method_20_code
def yX4_hours : MethodName := ⟨RX4, "hours", "()I"⟩
abbrev cX4_broke : ByteArray := prog_1_method_21_code
def yX4_broke : MethodName := ⟨RX4, "broke", "()I"⟩
abbrev cX4_brokeByHours : ByteArray := prog_1_method_22_code
def yX4_brokeByHours : MethodName := ⟨RX4, "brokeByHours", "()I"⟩
abbrev cX4_fresh : ByteArray := prog_1_method_23_code
def yX4_fresh : MethodName := ⟨RX4, "fresh", "()J"⟩
abbrev cX4_paper : ByteArray := prog_1_method_24_code
def yX4_paper : MethodName := ⟨RX4, "paper", "()J"⟩
abbrev cX4_lost : ByteArray := prog_1_method_25_code
def yX4_lost : MethodName := ⟨RX4, "lost", "()J"⟩
abbrev cX4_made : ByteArray := prog_1_method_26_code
def yX4_made : MethodName := ⟨RX4, "made", "(I)C"⟩
abbrev cX4_steamCost : ByteArray := prog_1_method_27_code
def yX4_steamCost : MethodName := ⟨RX4, "steamCost", "()J"⟩
abbrev cX4_paperShare : ByteArray := prog_1_method_28_code
def yX4_paperShare : MethodName := ⟨RX4, "paperShare", "()F"⟩
abbrev cX4_meanTrim : ByteArray := prog_1_method_29_code
def yX4_meanTrim : MethodName := ⟨RX4, "meanTrim", "()D"⟩
abbrev cX4_isGrade : ByteArray := prog_1_method_30_code
def yX4_isGrade : MethodName := ⟨RX4, "isGrade", "(I)Z"⟩
abbrev cX4_isWeightTaken : ByteArray := prog_1_method_31_code
def yX4_isWeightTaken : MethodName := ⟨RX4, "isWeightTaken", "(I)Z"⟩
abbrev cX4_massOfAnHour : ByteArray := prog_1_method_32_code
def yX4_massOfAnHour : MethodName := ⟨RX4, "massOfAnHour", "(I)I"⟩
abbrev cX4_nearestWaiting : ByteArray := prog_1_method_33_code
def yX4_nearestWaiting : MethodName := ⟨RX4, "nearestWaiting", "(IZ)I"⟩
abbrev cX4_passAnHour : ByteArray := prog_1_method_34_code
def yX4_passAnHour : MethodName := ⟨RX4, "passAnHour", "()I"⟩
abbrev cX4_make : ByteArray := prog_1_method_35_code
def yX4_make : MethodName := ⟨RX4, "make", "(CII)V"⟩
abbrev cX4_isWithin : ByteArray := prog_1_method_36_code
def yX4_isWithin : MethodName := ⟨RX4, "isWithin", "(III)Z"⟩
abbrev cX4_quotient : ByteArray := prog_1_method_37_code
def yX4_quotient : MethodName := ⟨RX4, "quotient", "(II)I"⟩
abbrev cX4_quotientUp : ByteArray := prog_1_method_38_code
def yX4_quotientUp : MethodName := ⟨RX4, "quotientUp", "(II)I"⟩
def RX5 : String := "PaperMachineModel"
def TX5 : u_T := fun k => match k with
  | 0 => ("PaperMachineModel", "thrown", "I", false)
  | 1 => ("PaperMachineModel", "grades", "I", false)
  | 2 => ("PaperMachineModel", "weight", "[I", true)
  | 3 => ("PaperMachineModel", "width", "I", false)
  | 4 => ("PaperMachineModel", "grade", "I", false)
  | 5 => ("PaperMachineModel", "isUp", "Z", false)
  | 6 => ("PaperMachineModel", "changing", "I", false)
  | 7 => ("PaperMachineModel", "orders", "I", false)
  | 8 => ("PaperMachineModel", "orderGrade", "[I", true)
  | 9 => ("PaperMachineModel", "orderWidth", "[I", true)
  | 10 => ("PaperMachineModel", "lacks", "[I", true)
  | 11 => ("PaperMachineModel", "cut", "[I", true)
  | 12 => ("PaperMachineModel", "share", "I", false)
  | 13 => ("PaperMachineModel", "limit", "I", false)
  | 14 => ("PaperMachineModel", "firstPrice", "I", false)
  | 15 => ("PaperMachineModel", "secondPrice", "I", false)
  | 16 => ("PaperMachineModel", "hours", "I", false)
  | 17 => ("PaperMachineModel", "made", "[C", true)
  | 18 => ("PaperMachineModel", "broke", "I", false)
  | 19 => ("PaperMachineModel", "fresh", "J", false)
  | 20 => ("PaperMachineModel", "paper", "J", false)
  | 21 => ("PaperMachineModel", "lost", "J", false)
  | 22 => ("PaperMachineModel", "steam", "J", false)
  | 23 => ("PaperMachineModel", "mass", "J", false)
  | 24 => ("PaperMachineModel", "paperHours", "I", false)
  | 25 => ("PaperMachineModel", "trims", "I", false)
  | 26 => ("PaperMachineModel", "best", "I", false)
  | 27 => ("PaperMachineModel", "trial", "[I", true)
  | _ => ("PaperMachineModel", "inCut", "[I", true)
def tyX5 : Nat → FieldType := fun k => match k with
  | 0 => .int
  | 1 => .int
  | 2 => .array .int
  | 3 => .int
  | 4 => .int
  | 5 => .boolean
  | 6 => .int
  | 7 => .int
  | 8 => .array .int
  | 9 => .array .int
  | 10 => .array .int
  | 11 => .array .int
  | 12 => .int
  | 13 => .int
  | 14 => .int
  | 15 => .int
  | 16 => .int
  | 17 => .array .char
  | 18 => .int
  | 19 => .long
  | 20 => .long
  | 21 => .long
  | 22 => .long
  | 23 => .long
  | 24 => .int
  | 25 => .int
  | 26 => .int
  | 27 => .array .int
  | _ => .array .int
abbrev wsX50 : List Cond := u_ws RX5 TX5 29
theorem nmX5 : ∀ a, a < 29 → ∀ b, b < 29 → a ≠ b → (TX5 a).2.1 ≠ (TX5 b).2.1 := by decide +kernel
theorem tyX5_ok : ∀ k, k < 29 → parseFieldDescriptor (TX5 k).2.2.1 = some (tyX5 k) := by decide +kernel
abbrev cX5_init : ByteArray := prog_7_method_1_code
def yX5_init : MethodName := ⟨RX5, "<init>", "()V"⟩
abbrev cX5_thrown : ByteArray := prog_7_method_2_code
def yX5_thrown : MethodName := ⟨RX5, "thrown", "()I"⟩
abbrev cX5_in : ByteArray := prog_7_method_3_code
def yX5_in : MethodName := ⟨RX5, "in", "(III)Z"⟩
abbrev cX5_goesOn : ByteArray := prog_7_method_4_code
def yX5_goesOn : MethodName := ⟨RX5, "goesOn", "(I)Z"⟩
abbrev cX5_isGrade : ByteArray := prog_7_method_5_code
def yX5_isGrade : MethodName := ⟨RX5, "isGrade", "(I)Z"⟩
abbrev cX5_isOrder : ByteArray := prog_7_method_6_code
def yX5_isOrder : MethodName := ⟨RX5, "isOrder", "(I)Z"⟩
abbrev cX5_hasWeight : ByteArray := prog_7_method_7_code
def yX5_hasWeight : MethodName := ⟨RX5, "hasWeight", "(I)Z"⟩
abbrev cX5_addGrade : ByteArray := prog_7_method_8_code
def yX5_addGrade : MethodName := ⟨RX5, "addGrade", "(I)I"⟩
abbrev cX5_setWidth : ByteArray := prog_7_method_9_code
def yX5_setWidth : MethodName := ⟨RX5, "setWidth", "(I)I"⟩
abbrev cX5_change : ByteArray := prog_7_method_10_code
def yX5_change : MethodName := ⟨RX5, "change", "(I)I"⟩
abbrev cX5_grade : ByteArray := prog_7_method_11_code
def yX5_grade : MethodName := ⟨RX5, "grade", "()I"⟩
abbrev cX5_changing : ByteArray := prog_7_method_12_code
def yX5_changing : MethodName := ⟨RX5, "changing", "()I"⟩
abbrev cX5_hasOrders : ByteArray := prog_7_method_13_code
def yX5_hasOrders : MethodName := ⟨RX5, "hasOrders", "(I)Z"⟩
abbrev cX5_nextFrom : ByteArray := prog_7_method_14_code
def yX5_nextFrom : MethodName := ⟨RX5, "nextFrom", "(IZ)I"⟩
abbrev cX5_next : ByteArray := prog_7_method_15_code
def yX5_next : MethodName := ⟨RX5, "next", "()I"⟩
abbrev cX5_massOf : ByteArray := prog_7_method_16_code
def yX5_massOf : MethodName := ⟨RX5, "massOf", "(I)I"⟩
abbrev cX5_mass : ByteArray := prog_7_method_17_code
def yX5_mass : MethodName := ⟨RX5, "mass", "(I)I"⟩
abbrev cX5_order : ByteArray := prog_7_method_18_code
def yX5_order : MethodName := ⟨RX5, "order", "(III)I"⟩
abbrev cX5_cancel : ByteArray := prog_7_method_19_code
def yX5_cancel : MethodName := ⟨RX5, "cancel", "(I)I"⟩
abbrev cX5_cut : ByteArray := prog_7_method_20_code
def yX5_cut : MethodName := ⟨RX5, "cut", "(I)I"⟩
abbrev cX5_lacks : ByteArray := prog_7_method_21_code
def yX5_lacks : MethodName := ⟨RX5, "lacks", "(I)I"⟩
abbrev cX5_tries : ByteArray := prog_7_method_22_code
def yX5_tries : MethodName := ⟨RX5, "tries", "(IIII)V"⟩
abbrev cX5_looks : ByteArray := prog_7_method_23_code
def yX5_looks : MethodName := ⟨RX5, "looks", "(I)I"⟩
abbrev cX5_trim : ByteArray := prog_7_method_24_code
def yX5_trim : MethodName := ⟨RX5, "trim", "(I)I"⟩
abbrev cX5_trimByTable : ByteArray := prog_7_method_25_code
def yX5_trimByTable : MethodName := ⟨RX5, "trimByTable", "(I)I"⟩
abbrev cX5_inCut : ByteArray := prog_7_method_26_code
def yX5_inCut : MethodName := ⟨RX5, "inCut", "(I)I"⟩
abbrev cX5_leastHours : ByteArray := prog_7_method_27_code
def yX5_leastHours : MethodName := ⟨RX5, "leastHours", "(I)I"⟩
abbrev cX5_setShare : ByteArray := prog_7_method_28_code
def yX5_setShare : MethodName := ⟨RX5, "setShare", "(I)I"⟩
abbrev cX5_setContract : ByteArray := prog_7_method_29_code
def yX5_setContract : MethodName := ⟨RX5, "setContract", "(III)I"⟩
abbrev cX5_makes : ByteArray := prog_7_method_30_code
def yX5_makes : MethodName := ⟨RX5, "makes", "(II)V"⟩
abbrev cX5_cuts : ByteArray := prog_7_method_31_code
def yX5_cuts : MethodName := ⟨RX5, "cuts", "()I"⟩
abbrev cX5_passesOne : ByteArray := prog_7_method_32_code
def yX5_passesOne : MethodName := ⟨RX5, "passesOne", "()I"⟩
abbrev cX5_pass : ByteArray := prog_7_method_33_code
def yX5_pass : MethodName := ⟨RX5, "pass", "(I)I"⟩
abbrev cX5_hours : ByteArray := prog_7_method_34_code
def yX5_hours : MethodName := ⟨RX5, "hours", "()I"⟩
abbrev cX5_broke : ByteArray := prog_7_method_35_code
def yX5_broke : MethodName := ⟨RX5, "broke", "()I"⟩
abbrev cX5_brokeByHours : ByteArray := prog_7_method_36_code
def yX5_brokeByHours : MethodName := ⟨RX5, "brokeByHours", "()I"⟩
abbrev cX5_fresh : ByteArray := prog_7_method_37_code
def yX5_fresh : MethodName := ⟨RX5, "fresh", "()J"⟩
abbrev cX5_paper : ByteArray := prog_7_method_38_code
def yX5_paper : MethodName := ⟨RX5, "paper", "()J"⟩
abbrev cX5_lost : ByteArray := prog_7_method_39_code
def yX5_lost : MethodName := ⟨RX5, "lost", "()J"⟩
abbrev cX5_made : ByteArray := prog_7_method_40_code
def yX5_made : MethodName := ⟨RX5, "made", "(I)C"⟩
abbrev cX5_steamCost : ByteArray := prog_7_method_41_code
def yX5_steamCost : MethodName := ⟨RX5, "steamCost", "()J"⟩
abbrev cX5_paperShare : ByteArray := prog_7_method_42_code
def yX5_paperShare : MethodName := ⟨RX5, "paperShare", "()F"⟩
abbrev cX5_meanTrim : ByteArray := prog_7_method_43_code
def yX5_meanTrim : MethodName := ⟨RX5, "meanTrim", "()D"⟩
def RJx145de : String := "java/io/Serializable"
def TJx145de : u_T := fun k => match k with
  | _ => ("", "", "", false)
def tyJx145de : Nat → FieldType := fun k => match k with
  | _ => .int
abbrev wsJx145de0 : List Cond := u_ws RJx145de TJx145de 0
theorem nmJx145de : ∀ a, a < 0 → ∀ b, b < 0 → a ≠ b → (TJx145de a).2.1 ≠ (TJx145de b).2.1 := by decide +kernel
theorem tyJx145de_ok : ∀ k, k < 0 → parseFieldDescriptor (TJx145de k).2.2.1 = some (tyJx145de k) := by decide +kernel
def RJx00060 : String := "java/lang/ArrayIndexOutOfBoundsException"
def TJx00060 : u_T := fun k => match k with
  | 0 => ("java/lang/Throwable", "backtrace", "Ljava/lang/Object;", false)
  | 1 => ("java/lang/Throwable", "detailMessage", "Ljava/lang/String;", false)
  | 2 => ("java/lang/Throwable", "cause", "Ljava/lang/Throwable;", false)
  | 3 => ("java/lang/Throwable", "stackTrace", "[Ljava/lang/StackTraceElement;", false)
  | 4 => ("java/lang/Throwable", "depth", "I", false)
  | _ => ("java/lang/Throwable", "suppressedExceptions", "Ljava/util/List;", false)
def tyJx00060 : Nat → FieldType := fun k => match k with
  | 0 => .object "java/lang/Object"
  | 1 => .object "java/lang/String"
  | 2 => .object "java/lang/Throwable"
  | 3 => .array (.object "java/lang/StackTraceElement")
  | 4 => .int
  | _ => .object "java/util/List"
abbrev wsJx000600 : List Cond := u_ws RJx00060 TJx00060 6
theorem nmJx00060 : ∀ a, a < 6 → ∀ b, b < 6 → a ≠ b → (TJx00060 a).2.1 ≠ (TJx00060 b).2.1 := by decide +kernel
theorem tyJx00060_ok : ∀ k, k < 6 → parseFieldDescriptor (TJx00060 k).2.2.1 = some (tyJx00060 k) := by decide +kernel
abbrev cJx00060_init_a7421 : ByteArray := prog_10_method_2_code
def yJx00060_init_a7421 : MethodName := ⟨RJx00060, "<init>", "(Ljava/lang/String;)V"⟩
def RJ9 : String := "java/lang/Math"
def TJ9 : u_T := fun k => match k with
  | _ => ("", "", "", false)
def tyJ9 : Nat → FieldType := fun k => match k with
  | _ => .int
abbrev wsJ90 : List Cond := u_ws RJ9 TJ9 0
theorem nmJ9 : ∀ a, a < 0 → ∀ b, b < 0 → a ≠ b → (TJ9 a).2.1 ≠ (TJ9 b).2.1 := by decide +kernel
theorem tyJ9_ok : ∀ k, k < 0 → parseFieldDescriptor (TJ9 k).2.2.1 = some (tyJ9 k) := by decide +kernel
abbrev cJ9_abs_0f7a4 : ByteArray := prog_15_method_59_code
def yJ9_abs_0f7a4 : MethodName := ⟨RJ9, "abs", "(I)I"⟩
abbrev cJ9_max_7cf53 : ByteArray := prog_15_method_65_code
def yJ9_max_7cf53 : MethodName := ⟨RJ9, "max", "(II)I"⟩
abbrev cJ9_min_7cf53 : ByteArray := prog_15_method_69_code
def yJ9_min_7cf53 : MethodName := ⟨RJ9, "min", "(II)I"⟩
def RJ0 : String := "java/lang/String"
def TJ0 : u_T := fun k => match k with
  | 0 => ("java/lang/String", "value", "[B", true)
  | _ => ("java/lang/String", "coder", "B", true)
def tyJ0 : Nat → FieldType := fun k => match k with
  | 0 => .array .byte
  | _ => .byte
abbrev wsJ00 : List Cond := u_ws RJ0 TJ0 2
theorem nmJ0 : ∀ a, a < 2 → ∀ b, b < 2 → a ≠ b → (TJ0 a).2.1 ≠ (TJ0 b).2.1 := by decide +kernel
theorem tyJ0_ok : ∀ k, k < 2 → parseFieldDescriptor (TJ0 k).2.2.1 = some (tyJ0 k) := by decide +kernel
def RJ10 : String := "java/lang/System"
def TJ10 : u_T := fun k => match k with
  | _ => ("", "", "", false)
def tyJ10 : Nat → FieldType := fun k => match k with
  | _ => .int
abbrev wsJ100 : List Cond := u_ws RJ10 TJ10 0
theorem nmJ10 : ∀ a, a < 0 → ∀ b, b < 0 → a ≠ b → (TJ10 a).2.1 ≠ (TJ10 b).2.1 := by decide +kernel
theorem tyJ10_ok : ∀ k, k < 0 → parseFieldDescriptor (TJ10 k).2.2.1 = some (tyJ10 k) := by decide +kernel
def RJ7 : String := "java/util/Arrays"
def TJ7 : u_T := fun k => match k with
  | _ => ("", "", "", false)
def tyJ7 : Nat → FieldType := fun k => match k with
  | _ => .int
abbrev wsJ70 : List Cond := u_ws RJ7 TJ7 0
theorem nmJ7 : ∀ a, a < 0 → ∀ b, b < 0 → a ≠ b → (TJ7 a).2.1 ≠ (TJ7 b).2.1 := by decide +kernel
theorem tyJ7_ok : ∀ k, k < 0 → parseFieldDescriptor (TJ7 k).2.2.1 = some (tyJ7 k) := by decide +kernel
abbrev cJ7_fill_53178 : ByteArray := prog_21_method_103_code
def yJ7_fill_53178 : MethodName := ⟨RJ7, "fill", "([II)V"⟩
def RL : String := "PaperMachineLaw"
abbrev cL_addGrade : ByteArray := method_3_code
def yL_addGrade : MethodName := ⟨RL, "addGrade", "(LPaperMachine;I[J)I"⟩
abbrev cL_setWidth : ByteArray := method_4_code
def yL_setWidth : MethodName := ⟨RL, "setWidth", "(LPaperMachine;I[J)I"⟩
abbrev cL_change : ByteArray := method_5_code
def yL_change : MethodName := ⟨RL, "change", "(LPaperMachine;I[J)I"⟩
abbrev cL_grade : ByteArray := method_6_code
def yL_grade : MethodName := ⟨RL, "grade", "(LPaperMachine;[J)I"⟩
abbrev cL_next : ByteArray := method_7_code
def yL_next : MethodName := ⟨RL, "next", "(LPaperMachine;[J)I"⟩
abbrev cL_mass : ByteArray := method_8_code
def yL_mass : MethodName := ⟨RL, "mass", "(LPaperMachine;I[J)I"⟩
abbrev cL_order : ByteArray := method_9_code
def yL_order : MethodName := ⟨RL, "order", "(LPaperMachine;III[J)I"⟩
abbrev cL_cancel : ByteArray := method_10_code
def yL_cancel : MethodName := ⟨RL, "cancel", "(LPaperMachine;I[J)I"⟩
abbrev cL_cut : ByteArray := method_11_code
def yL_cut : MethodName := ⟨RL, "cut", "(LPaperMachine;I[J)I"⟩
abbrev cL_lacks : ByteArray := method_12_code
def yL_lacks : MethodName := ⟨RL, "lacks", "(LPaperMachine;I[J)I"⟩
abbrev cL_trim : ByteArray := method_13_code
def yL_trim : MethodName := ⟨RL, "trim", "(LPaperMachine;I[J)I"⟩
abbrev cL_trimByTable : ByteArray := method_14_code
def yL_trimByTable : MethodName := ⟨RL, "trimByTable", "(LPaperMachine;I[J)I"⟩
abbrev cL_inCut : ByteArray := method_15_code
def yL_inCut : MethodName := ⟨RL, "inCut", "(LPaperMachine;I[J)I"⟩
abbrev cL_leastHours : ByteArray := method_16_code
def yL_leastHours : MethodName := ⟨RL, "leastHours", "(LPaperMachine;I[J)I"⟩
abbrev cL_setShare : ByteArray := method_17_code
def yL_setShare : MethodName := ⟨RL, "setShare", "(LPaperMachine;I[J)I"⟩
abbrev cL_setContract : ByteArray := method_18_code
def yL_setContract : MethodName := ⟨RL, "setContract", "(LPaperMachine;III[J)I"⟩
abbrev cL_pass : ByteArray := method_19_code
def yL_pass : MethodName := ⟨RL, "pass", "(LPaperMachine;I[J)I"⟩
abbrev cL_made : ByteArray := method_20_code
def yL_made : MethodName := ⟨RL, "made", "(LPaperMachine;I[J)I"⟩
abbrev cL_paperShare : ByteArray := method_21_code
def yL_paperShare : MethodName := ⟨RL, "paperShare", "(LPaperMachine;[D)I"⟩
abbrev cL_meanTrim : ByteArray := method_22_code
def yL_meanTrim : MethodName := ⟨RL, "meanTrim", "(LPaperMachine;[D)I"⟩
abbrev cL_law : ByteArray := code
def yL_law : MethodName := ⟨RL, "law", "([I)Z"⟩
def wsX0_init : List Cond := .code yX0_init cX0_init 1 none :: ([.methodLink RX0 1 objectInit, .instanceMethod objectInit, .code objectInit ⟨#[0xb1]⟩ 1 none, .fieldLink RX0 7 "PaperMachine$Contract" "limit" "I", .fieldLink RX0 13 "PaperMachine$Contract" "firstPrice" "I", .fieldLink RX0 16 "PaperMachine$Contract" "secondPrice" "I"] ++ wsX00)
def wsX0_cost : List Cond := .code yX0_cost cX0_cost 3 (some .long) :: ([.fieldLink RX0 7 "PaperMachine$Contract" "limit" "I", .methodLink RX0 19 Lib.Math.min.name, .static Lib.Math.min.name, .initialized "java/lang/Math", .code Lib.Math.min.name Lib.Math.min.code 2 (some .int), .fieldLink RX0 13 "PaperMachine$Contract" "firstPrice" "I", .fieldLink RX0 16 "PaperMachine$Contract" "secondPrice" "I"] ++ wsX00)
def wsX1_init : List Cond := .code yX1_init cX1_init 1 none :: ([.methodLink RX1 3 objectInit, .instanceMethod objectInit, .code objectInit ⟨#[0xb1]⟩ 1 none, .arrayClass .int, .fieldLink RX1 9 "PaperMachine$Cutter" "best" "[I", .fieldLink RX1 15 "PaperMachine$Cutter" "trial" "[I", .fieldLink RX1 18 "PaperMachine$Cutter" "widths" "[I", .fieldLink RX1 21 "PaperMachine$Cutter" "mostRolls" "[I", .fieldLink RX1 24 "PaperMachine$Cutter" "widestFrom" "[I", .fieldLink RX1 27 "PaperMachine$Cutter" "fewest" "[I"] ++ wsX10)
def wsX3_has : List Cond := .code yX3_has cX3_has 2 (some .boolean) :: ([.fieldLink RX3 24 "PaperMachine$OrderBook" "count" "I"] ++ wsX30)
def wsX1_load : List Cond := .code yX1_load cX1_load 7 none :: ([.methodLink RX1 30 Lib.Math.min.name, .static Lib.Math.min.name, .initialized "java/lang/Math", .code Lib.Math.min.name Lib.Math.min.code 2 (some .int), .methodLink RX1 36 Lib.Math.max.name, .static Lib.Math.max.name, .code Lib.Math.max.name Lib.Math.max.code 2 (some .int), .fieldLink RX1 39 "PaperMachine$Cutter" "room" "I", .fieldLink RX1 49 "PaperMachine$OrderBook" "grades" "[I", .fieldLink RX1 18 "PaperMachine$Cutter" "widths" "[I", .fieldLink RX1 52 "PaperMachine$OrderBook" "widths" "[I", .fieldLink RX1 21 "PaperMachine$Cutter" "mostRolls" "[I", .fieldLink RX1 53 "PaperMachine$OrderBook" "lacking" "[I", .fieldLink RX1 24 "PaperMachine$Cutter" "widestFrom" "[I", .methodLink RX1 43 yX3_has, .instanceMethod yX3_has, .selects RX3 yX3_has yX3_has, .initialized RX3, .code yX3_has cX3_has 2 (some .boolean), .fieldLink RX3 24 "PaperMachine$OrderBook" "count" "I"] ++ wsX10 ++ wsX30 ++ (vx_atM "java/lang/ArrayIndexOutOfBoundsException" ["java/lang/IndexOutOfBoundsException", "java/lang/RuntimeException", "java/lang/Exception"]).filter goodWord)
def wsJ7_fill_53178 : List Cond := .code yJ7_fill_53178 cJ7_fill_53178 4 none :: ([])
def wsX1_keepIfGreater : List Cond := .code yX1_keepIfGreater cX1_keepIfGreater 2 none :: ([.fieldLink RX1 56 "PaperMachine$Cutter" "bestSum" "I", .fieldLink RX1 15 "PaperMachine$Cutter" "trial" "[I", .fieldLink RX1 9 "PaperMachine$Cutter" "best" "[I", .methodLink RX1 73 arraycopyName, .native arraycopyName, .static arraycopyName, .initialized "java/lang/System"] ++ wsX10)
def wsX1_search : List Cond := .code yX1_search cX1_search 7 none :: ([.fieldLink RX1 24 "PaperMachine$Cutter" "widestFrom" "[I", .fieldLink RX1 39 "PaperMachine$Cutter" "room" "I", .methodLink RX1 30 Lib.Math.min.name, .static Lib.Math.min.name, .initialized "java/lang/Math", .code Lib.Math.min.name Lib.Math.min.code 2 (some .int), .fieldLink RX1 56 "PaperMachine$Cutter" "bestSum" "I", .fieldLink RX1 21 "PaperMachine$Cutter" "mostRolls" "[I", .fieldLink RX1 18 "PaperMachine$Cutter" "widths" "[I", .fieldLink RX1 15 "PaperMachine$Cutter" "trial" "[I", .methodLink RX1 69 yX1_keepIfGreater, .instanceMethod yX1_keepIfGreater, .selects RX1 yX1_keepIfGreater yX1_keepIfGreater, .initialized RX1, .code yX1_keepIfGreater cX1_keepIfGreater 2 none, .fieldLink RX1 9 "PaperMachine$Cutter" "best" "[I", .methodLink RX1 73 arraycopyName, .native arraycopyName, .static arraycopyName, .initialized "java/lang/System", .methodLink RX1 65 yX1_search, .static yX1_search] ++ wsX10 ++ (vx_atM "java/lang/ArrayIndexOutOfBoundsException" ["java/lang/IndexOutOfBoundsException", "java/lang/RuntimeException", "java/lang/Exception"]).filter goodWord)
def wsX1_sumBySearch_r1 : List Cond := [Cond.fieldLink RX1 56 "PaperMachine$Cutter" "bestSum" "I", Cond.fieldLink RX1 9 "PaperMachine$Cutter" "best" "[I", Cond.methodLink RX1 59 yJ7_fill_53178, Cond.static yJ7_fill_53178, Cond.initialized RJ7, Cond.code yJ7_fill_53178 cJ7_fill_53178 4 none, Cond.methodLink RX1 65 yX1_search, Cond.static yX1_search, Cond.initialized RX1, Cond.code yX1_search cX1_search 7 none, Cond.fieldLink RX1 24 "PaperMachine$Cutter" "widestFrom" "[I", Cond.fieldLink RX1 39 "PaperMachine$Cutter" "room" "I", Cond.methodLink RX1 30 Lib.Math.min.name, Cond.static Lib.Math.min.name, Cond.initialized "java/lang/Math", Cond.code Lib.Math.min.name Lib.Math.min.code 2 (some .int), Cond.fieldLink RX1 21 "PaperMachine$Cutter" "mostRolls" "[I", Cond.fieldLink RX1 18 "PaperMachine$Cutter" "widths" "[I", Cond.fieldLink RX1 15 "PaperMachine$Cutter" "trial" "[I", Cond.methodLink RX1 69 yX1_keepIfGreater, Cond.instanceMethod yX1_keepIfGreater, Cond.selects RX1 yX1_keepIfGreater yX1_keepIfGreater, Cond.code yX1_keepIfGreater cX1_keepIfGreater 2 none, Cond.methodLink RX1 73 arraycopyName]
def wsX1_sumBySearch_r2 : List Cond := [Cond.native arraycopyName, Cond.static arraycopyName, Cond.initialized "java/lang/System"]
def wsX1_sumBySearch : List Cond := .code yX1_sumBySearch cX1_sumBySearch 1 (some .int) :: ((wsX1_sumBySearch_r1 ++ wsX1_sumBySearch_r2) ++ wsX10 ++ (vx_atM "java/lang/ArrayIndexOutOfBoundsException" ["java/lang/IndexOutOfBoundsException", "java/lang/RuntimeException", "java/lang/Exception"]).filter goodWord)
def wsX1_addRollToTable : List Cond := .code yX1_addRollToTable cX1_addRollToTable 3 none :: ([.fieldLink RX1 39 "PaperMachine$Cutter" "room" "I", .fieldLink RX1 27 "PaperMachine$Cutter" "fewest" "[I", .methodLink RX1 30 Lib.Math.min.name, .static Lib.Math.min.name, .initialized "java/lang/Math", .code Lib.Math.min.name Lib.Math.min.code 2 (some .int)] ++ wsX10 ++ (vx_atM "java/lang/ArrayIndexOutOfBoundsException" ["java/lang/IndexOutOfBoundsException", "java/lang/RuntimeException", "java/lang/Exception"]).filter goodWord)
def wsX1_sumByTable : List Cond := .code yX1_sumByTable cX1_sumByTable 3 (some .int) :: ([.fieldLink RX1 27 "PaperMachine$Cutter" "fewest" "[I", .fieldLink RX1 21 "PaperMachine$Cutter" "mostRolls" "[I", .fieldLink RX1 18 "PaperMachine$Cutter" "widths" "[I", .fieldLink RX1 39 "PaperMachine$Cutter" "room" "I", .methodLink RX1 59 yJ7_fill_53178, .static yJ7_fill_53178, .initialized RJ7, .code yJ7_fill_53178 cJ7_fill_53178 4 none, .methodLink RX1 79 yX1_addRollToTable, .instanceMethod yX1_addRollToTable, .selects RX1 yX1_addRollToTable yX1_addRollToTable, .initialized RX1, .code yX1_addRollToTable cX1_addRollToTable 3 none, .methodLink RX1 30 Lib.Math.min.name, .static Lib.Math.min.name, .initialized "java/lang/Math", .code Lib.Math.min.name Lib.Math.min.code 2 (some .int)] ++ wsX10 ++ (vx_atM "java/lang/ArrayIndexOutOfBoundsException" ["java/lang/IndexOutOfBoundsException", "java/lang/RuntimeException", "java/lang/Exception"]).filter goodWord)
def wsX2_init : List Cond := .code yX2_init cX2_init 1 none :: ([.methodLink RX2 3 objectInit, .instanceMethod objectInit, .code objectInit ⟨#[0xb1]⟩ 1 none, .arrayClass .char, .fieldLink RX2 9 "PaperMachine$HourBook" "kinds" "[C", .arrayClass .int, .fieldLink RX2 15 "PaperMachine$HourBook" "freshIn" "[I", .fieldLink RX2 19 "PaperMachine$HourBook" "paperOut" "[I", .fieldLink RX2 22 "PaperMachine$HourBook" "lossOut" "[I"] ++ wsX20)
def wsX2_has : List Cond := .code yX2_has cX2_has 2 (some .boolean) :: ([.fieldLink RX2 25 "PaperMachine$HourBook" "count" "I"] ++ wsX20)
def wsX2_writeMade : List Cond := .code yX2_writeMade cX2_writeMade 5 none :: ([.fieldLink RX2 25 "PaperMachine$HourBook" "count" "I", .fieldLink RX2 9 "PaperMachine$HourBook" "kinds" "[C", .fieldLink RX2 15 "PaperMachine$HourBook" "freshIn" "[I", .fieldLink RX2 19 "PaperMachine$HourBook" "paperOut" "[I", .fieldLink RX2 22 "PaperMachine$HourBook" "lossOut" "[I", .fieldLink RX2 33 "PaperMachine$HourBook" "freshSum" "J", .fieldLink RX2 37 "PaperMachine$HourBook" "paperSum" "J", .fieldLink RX2 40 "PaperMachine$HourBook" "lossSum" "J"] ++ wsX20 ++ (vx_atM "java/lang/ArrayIndexOutOfBoundsException" ["java/lang/IndexOutOfBoundsException", "java/lang/RuntimeException", "java/lang/Exception"]).filter goodWord)
def wsX2_writeNothing : List Cond := .code yX2_writeNothing cX2_writeNothing 1 none :: ([.methodLink RX2 29 yX2_writeMade, .instanceMethod yX2_writeMade, .selects RX2 yX2_writeMade yX2_writeMade, .initialized RX2, .code yX2_writeMade cX2_writeMade 5 none, .fieldLink RX2 25 "PaperMachine$HourBook" "count" "I", .fieldLink RX2 9 "PaperMachine$HourBook" "kinds" "[C", .fieldLink RX2 15 "PaperMachine$HourBook" "freshIn" "[I", .fieldLink RX2 19 "PaperMachine$HourBook" "paperOut" "[I", .fieldLink RX2 22 "PaperMachine$HourBook" "lossOut" "[I", .fieldLink RX2 33 "PaperMachine$HourBook" "freshSum" "J", .fieldLink RX2 37 "PaperMachine$HourBook" "paperSum" "J", .fieldLink RX2 40 "PaperMachine$HourBook" "lossSum" "J"] ++ wsX20 ++ (vx_atM "java/lang/ArrayIndexOutOfBoundsException" ["java/lang/IndexOutOfBoundsException", "java/lang/RuntimeException", "java/lang/Exception"]).filter goodWord)
def wsX2_writeTrim : List Cond := .code yX2_writeTrim cX2_writeTrim 2 none :: ([.fieldLink RX2 43 "PaperMachine$HourBook" "trimSum" "J", .fieldLink RX2 46 "PaperMachine$HourBook" "paperHours" "I"] ++ wsX20)
def wsX2_fibreStillThere : List Cond := .code yX2_fibreStillThere cX2_fibreStillThere 3 (some .int) :: ([.fieldLink RX2 25 "PaperMachine$HourBook" "count" "I", .fieldLink RX2 15 "PaperMachine$HourBook" "freshIn" "[I", .fieldLink RX2 19 "PaperMachine$HourBook" "paperOut" "[I", .fieldLink RX2 22 "PaperMachine$HourBook" "lossOut" "[I"] ++ wsX20 ++ (vx_atM "java/lang/ArrayIndexOutOfBoundsException" ["java/lang/IndexOutOfBoundsException", "java/lang/RuntimeException", "java/lang/Exception"]).filter goodWord)
def wsX3_init : List Cond := .code yX3_init cX3_init 1 none :: ([.methodLink RX3 3 objectInit, .instanceMethod objectInit, .code objectInit ⟨#[0xb1]⟩ 1 none, .arrayClass .int, .fieldLink RX3 9 "PaperMachine$OrderBook" "grades" "[I", .fieldLink RX3 15 "PaperMachine$OrderBook" "widths" "[I", .fieldLink RX3 18 "PaperMachine$OrderBook" "rollsCut" "[I", .fieldLink RX3 21 "PaperMachine$OrderBook" "lacking" "[I"] ++ wsX30)
def wsX3_isFull : List Cond := .code yX3_isFull cX3_isFull 1 (some .boolean) :: ([.fieldLink RX3 24 "PaperMachine$OrderBook" "count" "I"] ++ wsX30)
def wsX3_write : List Cond := .code yX3_write cX3_write 5 (some .int) :: ([.fieldLink RX3 24 "PaperMachine$OrderBook" "count" "I", .fieldLink RX3 9 "PaperMachine$OrderBook" "grades" "[I", .fieldLink RX3 15 "PaperMachine$OrderBook" "widths" "[I", .fieldLink RX3 18 "PaperMachine$OrderBook" "rollsCut" "[I", .fieldLink RX3 21 "PaperMachine$OrderBook" "lacking" "[I", .methodLink RX3 28 yX3_isFull, .instanceMethod yX3_isFull, .selects RX3 yX3_isFull yX3_isFull, .initialized RX3, .code yX3_isFull cX3_isFull 1 (some .boolean)] ++ wsX30 ++ (vx_atM "java/lang/ArrayIndexOutOfBoundsException" ["java/lang/IndexOutOfBoundsException", "java/lang/RuntimeException", "java/lang/Exception"]).filter goodWord)
def wsX3_widestOpen : List Cond := .code yX3_widestOpen cX3_widestOpen 3 (some .int) :: ([.fieldLink RX3 24 "PaperMachine$OrderBook" "count" "I", .fieldLink RX3 21 "PaperMachine$OrderBook" "lacking" "[I", .fieldLink RX3 15 "PaperMachine$OrderBook" "widths" "[I", .methodLink RX3 32 Lib.Math.max.name, .static Lib.Math.max.name, .initialized "java/lang/Math", .code Lib.Math.max.name Lib.Math.max.code 2 (some .int)] ++ wsX30 ++ (vx_atM "java/lang/ArrayIndexOutOfBoundsException" ["java/lang/IndexOutOfBoundsException", "java/lang/RuntimeException", "java/lang/Exception"]).filter goodWord)
def wsX3_rollsLacking : List Cond := .code yX3_rollsLacking cX3_rollsLacking 4 (some .int) :: ([.fieldLink RX3 24 "PaperMachine$OrderBook" "count" "I", .fieldLink RX3 9 "PaperMachine$OrderBook" "grades" "[I", .fieldLink RX3 21 "PaperMachine$OrderBook" "lacking" "[I"] ++ wsX30 ++ (vx_atM "java/lang/ArrayIndexOutOfBoundsException" ["java/lang/IndexOutOfBoundsException", "java/lang/RuntimeException", "java/lang/Exception"]).filter goodWord)
def wsX3_widthLacking : List Cond := .code yX3_widthLacking cX3_widthLacking 4 (some .int) :: ([.fieldLink RX3 24 "PaperMachine$OrderBook" "count" "I", .fieldLink RX3 9 "PaperMachine$OrderBook" "grades" "[I", .fieldLink RX3 21 "PaperMachine$OrderBook" "lacking" "[I", .fieldLink RX3 15 "PaperMachine$OrderBook" "widths" "[I"] ++ wsX30 ++ (vx_atM "java/lang/ArrayIndexOutOfBoundsException" ["java/lang/IndexOutOfBoundsException", "java/lang/RuntimeException", "java/lang/Exception"]).filter goodWord)
def wsX3_takeOff : List Cond := .code yX3_takeOff cX3_takeOff 4 (some .int) :: ([.fieldLink RX3 24 "PaperMachine$OrderBook" "count" "I", .fieldLink RX3 18 "PaperMachine$OrderBook" "rollsCut" "[I", .fieldLink RX3 21 "PaperMachine$OrderBook" "lacking" "[I"] ++ wsX30 ++ (vx_atM "java/lang/ArrayIndexOutOfBoundsException" ["java/lang/IndexOutOfBoundsException", "java/lang/RuntimeException", "java/lang/Exception"]).filter goodWord)
def wsX4_init_r1 : List Cond := [Cond.methodLink RX4 1 objectInit, Cond.instanceMethod objectInit, Cond.code objectInit ⟨#[0xb1]⟩ 1 none, Cond.arrayClass .int, Cond.fieldLink RX4 9 "PaperMachine" "weights" "[I", Cond.fieldLink RX4 13 "PaperMachine" "machineWidth" "I", Cond.fieldLink RX4 17 "PaperMachine" "machineGrade" "I", Cond.fieldLink RX4 20 "PaperMachine" "upward" "Z", Cond.classLink RX4 24 RX3, Cond.instantiable RX3 5, Cond.initialized RX3, Cond.fieldLink RX4 27 "PaperMachine" "orderBook" "LPaperMachine$OrderBook;", Cond.classLink RX4 31 RX1, Cond.instantiable RX1 8, Cond.initialized RX1, Cond.fieldLink RX4 34 "PaperMachine" "cutter" "LPaperMachine$Cutter;", Cond.classLink RX4 38 RX0, Cond.instantiable RX0 3, Cond.initialized RX0, Cond.fieldLink RX4 41 "PaperMachine" "contract" "LPaperMachine$Contract;", Cond.classLink RX4 45 RX2, Cond.instantiable RX2 11, Cond.initialized RX2, Cond.fieldLink RX4 48 "PaperMachine" "hourBook" "LPaperMachine$HourBook;"]
def wsX4_init_r2 : List Cond := [Cond.fieldLink RX4 52 "PaperMachine" "share" "I", Cond.instanceMethod yX3_init, Cond.code yX3_init cX3_init 1 none, Cond.methodLink RX3 3 objectInit, Cond.fieldLink RX3 9 "PaperMachine$OrderBook" "grades" "[I", Cond.fieldLink RX3 15 "PaperMachine$OrderBook" "widths" "[I", Cond.fieldLink RX3 18 "PaperMachine$OrderBook" "rollsCut" "[I", Cond.fieldLink RX3 21 "PaperMachine$OrderBook" "lacking" "[I", Cond.instanceMethod yX1_init, Cond.code yX1_init cX1_init 1 none, Cond.methodLink RX1 3 objectInit, Cond.fieldLink RX1 9 "PaperMachine$Cutter" "best" "[I", Cond.fieldLink RX1 15 "PaperMachine$Cutter" "trial" "[I", Cond.fieldLink RX1 18 "PaperMachine$Cutter" "widths" "[I", Cond.fieldLink RX1 21 "PaperMachine$Cutter" "mostRolls" "[I", Cond.fieldLink RX1 24 "PaperMachine$Cutter" "widestFrom" "[I", Cond.fieldLink RX1 27 "PaperMachine$Cutter" "fewest" "[I", Cond.instanceMethod yX0_init, Cond.code yX0_init cX0_init 1 none, Cond.methodLink RX0 1 objectInit, Cond.fieldLink RX0 7 "PaperMachine$Contract" "limit" "I", Cond.fieldLink RX0 13 "PaperMachine$Contract" "firstPrice" "I", Cond.fieldLink RX0 16 "PaperMachine$Contract" "secondPrice" "I", Cond.instanceMethod yX2_init]
def wsX4_init_r3 : List Cond := [Cond.code yX2_init cX2_init 1 none, Cond.methodLink RX2 3 objectInit, Cond.arrayClass .char, Cond.fieldLink RX2 9 "PaperMachine$HourBook" "kinds" "[C", Cond.fieldLink RX2 15 "PaperMachine$HourBook" "freshIn" "[I", Cond.fieldLink RX2 19 "PaperMachine$HourBook" "paperOut" "[I", Cond.fieldLink RX2 22 "PaperMachine$HourBook" "lossOut" "[I"]
def wsX4_init : List Cond := .code yX4_init cX4_init 1 none :: ((wsX4_init_r1 ++ (wsX4_init_r2 ++ wsX4_init_r3)) ++ wsX40 ++ wsX30 ++ wsX10 ++ wsX00 ++ wsX20)
def wsX4_isWithin : List Cond := .code yX4_isWithin cX4_isWithin 3 (some .boolean) :: ([])
def wsX4_isWeightTaken : List Cond := .code yX4_isWeightTaken cX4_isWeightTaken 3 (some .boolean) :: ([.fieldLink RX4 70 "PaperMachine" "gradeCount" "I", .fieldLink RX4 9 "PaperMachine" "weights" "[I"] ++ wsX40 ++ (vx_atM "java/lang/ArrayIndexOutOfBoundsException" ["java/lang/IndexOutOfBoundsException", "java/lang/RuntimeException", "java/lang/Exception"]).filter goodWord)
def wsX4_addGrade : List Cond := .code yX4_addGrade cX4_addGrade 3 (some .int) :: ([.classLink RX4 63 "java/lang/IllegalArgumentException", .initialized "java/lang/IllegalArgumentException", .classLink RX4 73 "java/lang/IllegalStateException", .initialized "java/lang/IllegalStateException", .fieldLink RX4 70 "PaperMachine" "gradeCount" "I", .fieldLink RX4 9 "PaperMachine" "weights" "[I", .methodLink RX4 55 yX4_isWithin, .static yX4_isWithin, .initialized RX4, .code yX4_isWithin cX4_isWithin 3 (some .boolean), .methodLink RX4 59 yX4_isWeightTaken, .instanceMethod yX4_isWeightTaken, .selects RX4 yX4_isWeightTaken yX4_isWeightTaken, .code yX4_isWeightTaken cX4_isWeightTaken 3 (some .boolean)] ++ wsX40 ++ (vx_atS RX4 67 "java/lang/IllegalArgumentException" ["java/lang/RuntimeException", "java/lang/Exception"]).filter goodWord ++ (vx_atS RX4 77 "java/lang/IllegalStateException" ["java/lang/RuntimeException", "java/lang/Exception"]).filter goodWord ++ (vx_atM "java/lang/ArrayIndexOutOfBoundsException" ["java/lang/IndexOutOfBoundsException", "java/lang/RuntimeException", "java/lang/Exception"]).filter goodWord)
def wsX4_setWidth : List Cond := .code yX4_setWidth cX4_setWidth 3 (some .int) :: ([.classLink RX4 63 "java/lang/IllegalArgumentException", .initialized "java/lang/IllegalArgumentException", .classLink RX4 73 "java/lang/IllegalStateException", .initialized "java/lang/IllegalStateException", .fieldLink RX4 27 "PaperMachine" "orderBook" "LPaperMachine$OrderBook;", .fieldLink RX4 13 "PaperMachine" "machineWidth" "I", .methodLink RX4 55 yX4_isWithin, .static yX4_isWithin, .initialized RX4, .code yX4_isWithin cX4_isWithin 3 (some .boolean), .methodLink RX4 80 yX3_widestOpen, .instanceMethod yX3_widestOpen, .selects RX3 yX3_widestOpen yX3_widestOpen, .initialized RX3, .code yX3_widestOpen cX3_widestOpen 3 (some .int), .fieldLink RX3 24 "PaperMachine$OrderBook" "count" "I", .fieldLink RX3 21 "PaperMachine$OrderBook" "lacking" "[I", .fieldLink RX3 15 "PaperMachine$OrderBook" "widths" "[I", .methodLink RX3 32 Lib.Math.max.name, .static Lib.Math.max.name, .initialized "java/lang/Math", .code Lib.Math.max.name Lib.Math.max.code 2 (some .int)] ++ wsX40 ++ wsX30 ++ (vx_atS RX4 67 "java/lang/IllegalArgumentException" ["java/lang/RuntimeException", "java/lang/Exception"]).filter goodWord ++ (vx_atS RX4 77 "java/lang/IllegalStateException" ["java/lang/RuntimeException", "java/lang/Exception"]).filter goodWord ++ (vx_atM "java/lang/ArrayIndexOutOfBoundsException" ["java/lang/IndexOutOfBoundsException", "java/lang/RuntimeException", "java/lang/Exception"]).filter goodWord)
def wsX4_isGrade : List Cond := .code yX4_isGrade cX4_isGrade 2 (some .boolean) :: ([.fieldLink RX4 70 "PaperMachine" "gradeCount" "I"] ++ wsX40)
def wsX4_change : List Cond := .code yX4_change cX4_change 4 (some .int) :: ([.classLink RX4 89 "java/lang/IndexOutOfBoundsException", .initialized "java/lang/IndexOutOfBoundsException", .classLink RX4 63 "java/lang/IllegalArgumentException", .initialized "java/lang/IllegalArgumentException", .classLink RX4 73 "java/lang/IllegalStateException", .initialized "java/lang/IllegalStateException", .fieldLink RX4 17 "PaperMachine" "machineGrade" "I", .fieldLink RX4 96 "PaperMachine" "changeHours" "I", .fieldLink RX4 9 "PaperMachine" "weights" "[I", .methodLink RX4 101 Lib.Math.abs.name, .static Lib.Math.abs.name, .initialized "java/lang/Math", .code Lib.Math.abs.name Lib.Math.abs.code 1 (some .int), .fieldLink RX4 20 "PaperMachine" "upward" "Z", .methodLink RX4 86 yX4_isGrade, .instanceMethod yX4_isGrade, .selects RX4 yX4_isGrade yX4_isGrade, .initialized RX4, .code yX4_isGrade cX4_isGrade 2 (some .boolean), .fieldLink RX4 70 "PaperMachine" "gradeCount" "I"] ++ wsX40 ++ (vx_atS RX4 93 "java/lang/IndexOutOfBoundsException" ["java/lang/RuntimeException", "java/lang/Exception"]).filter goodWord ++ (vx_atS RX4 67 "java/lang/IllegalArgumentException" ["java/lang/RuntimeException", "java/lang/Exception"]).filter goodWord ++ (vx_atS RX4 77 "java/lang/IllegalStateException" ["java/lang/RuntimeException", "java/lang/Exception"]).filter goodWord ++ (vx_atM "java/lang/ArrayIndexOutOfBoundsException" ["java/lang/IndexOutOfBoundsException", "java/lang/RuntimeException", "java/lang/Exception"]).filter goodWord)
def wsX4_grade : List Cond := .code yX4_grade cX4_grade 1 (some .int) :: ([.classLink RX4 107 "java/util/NoSuchElementException", .initialized "java/util/NoSuchElementException", .fieldLink RX4 17 "PaperMachine" "machineGrade" "I", .methodLink RX4 86 yX4_isGrade, .instanceMethod yX4_isGrade, .selects RX4 yX4_isGrade yX4_isGrade, .initialized RX4, .code yX4_isGrade cX4_isGrade 2 (some .boolean), .fieldLink RX4 70 "PaperMachine" "gradeCount" "I"] ++ wsX40 ++ (nx_atS RX4 111 "java/util/NoSuchElementException" ["java/lang/RuntimeException", "java/lang/Exception"]).filter goodWord)
def wsX4_changing : List Cond := .code yX4_changing cX4_changing 1 (some .int) :: ([.fieldLink RX4 96 "PaperMachine" "changeHours" "I"] ++ wsX40)
def wsX4_nearestWaiting : List Cond := .code yX4_nearestWaiting cX4_nearestWaiting 8 (some .int) :: ([.fieldLink RX4 70 "PaperMachine" "gradeCount" "I", .fieldLink RX4 9 "PaperMachine" "weights" "[I", .fieldLink RX4 27 "PaperMachine" "orderBook" "LPaperMachine$OrderBook;", .methodLink RX4 174 yX3_rollsLacking, .instanceMethod yX3_rollsLacking, .selects RX3 yX3_rollsLacking yX3_rollsLacking, .initialized RX3, .code yX3_rollsLacking cX3_rollsLacking 4 (some .int), .fieldLink RX3 24 "PaperMachine$OrderBook" "count" "I", .fieldLink RX3 9 "PaperMachine$OrderBook" "grades" "[I", .fieldLink RX3 21 "PaperMachine$OrderBook" "lacking" "[I"] ++ wsX40 ++ wsX30 ++ (vx_atM "java/lang/ArrayIndexOutOfBoundsException" ["java/lang/IndexOutOfBoundsException", "java/lang/RuntimeException", "java/lang/Exception"]).filter goodWord)
def wsX4_next : List Cond := .code yX4_next cX4_next 2 (some .int) :: ([.classLink RX4 107 "java/util/NoSuchElementException", .initialized "java/util/NoSuchElementException", .fieldLink RX4 17 "PaperMachine" "machineGrade" "I", .fieldLink RX4 9 "PaperMachine" "weights" "[I", .fieldLink RX4 20 "PaperMachine" "upward" "Z", .methodLink RX4 86 yX4_isGrade, .instanceMethod yX4_isGrade, .selects RX4 yX4_isGrade yX4_isGrade, .initialized RX4, .code yX4_isGrade cX4_isGrade 2 (some .boolean), .fieldLink RX4 70 "PaperMachine" "gradeCount" "I", .methodLink RX4 112 yX4_nearestWaiting, .instanceMethod yX4_nearestWaiting, .selects RX4 yX4_nearestWaiting yX4_nearestWaiting, .code yX4_nearestWaiting cX4_nearestWaiting 8 (some .int), .fieldLink RX4 27 "PaperMachine" "orderBook" "LPaperMachine$OrderBook;", .methodLink RX4 174 yX3_rollsLacking, .instanceMethod yX3_rollsLacking, .selects RX3 yX3_rollsLacking yX3_rollsLacking, .initialized RX3, .code yX3_rollsLacking cX3_rollsLacking 4 (some .int), .fieldLink RX3 24 "PaperMachine$OrderBook" "count" "I", .fieldLink RX3 9 "PaperMachine$OrderBook" "grades" "[I", .fieldLink RX3 21 "PaperMachine$OrderBook" "lacking" "[I"] ++ wsX40 ++ wsX30 ++ (vx_atM "java/lang/ArrayIndexOutOfBoundsException" ["java/lang/IndexOutOfBoundsException", "java/lang/RuntimeException", "java/lang/Exception"]).filter goodWord ++ (nx_atS RX4 111 "java/util/NoSuchElementException" ["java/lang/RuntimeException", "java/lang/Exception"]).filter goodWord)
def wsX4_massOfAnHour : List Cond := .code yX4_massOfAnHour cX4_massOfAnHour 2 (some .int) :: ([.fieldLink RX4 9 "PaperMachine" "weights" "[I", .fieldLink RX4 13 "PaperMachine" "machineWidth" "I", .methodLink RX4 86 yX4_isGrade, .instanceMethod yX4_isGrade, .selects RX4 yX4_isGrade yX4_isGrade, .initialized RX4, .code yX4_isGrade cX4_isGrade 2 (some .boolean), .fieldLink RX4 70 "PaperMachine" "gradeCount" "I"] ++ wsX40 ++ (vx_atM "java/lang/ArrayIndexOutOfBoundsException" ["java/lang/IndexOutOfBoundsException", "java/lang/RuntimeException", "java/lang/Exception"]).filter goodWord)
def wsX4_mass : List Cond := .code yX4_mass cX4_mass 2 (some .int) :: ([.classLink RX4 89 "java/lang/IndexOutOfBoundsException", .initialized "java/lang/IndexOutOfBoundsException", .methodLink RX4 86 yX4_isGrade, .instanceMethod yX4_isGrade, .selects RX4 yX4_isGrade yX4_isGrade, .initialized RX4, .code yX4_isGrade cX4_isGrade 2 (some .boolean), .fieldLink RX4 70 "PaperMachine" "gradeCount" "I", .methodLink RX4 118 yX4_massOfAnHour, .instanceMethod yX4_massOfAnHour, .selects RX4 yX4_massOfAnHour yX4_massOfAnHour, .code yX4_massOfAnHour cX4_massOfAnHour 2 (some .int), .fieldLink RX4 9 "PaperMachine" "weights" "[I", .fieldLink RX4 13 "PaperMachine" "machineWidth" "I"] ++ wsX40 ++ (vx_atS RX4 93 "java/lang/IndexOutOfBoundsException" ["java/lang/RuntimeException", "java/lang/Exception"]).filter goodWord ++ (vx_atM "java/lang/ArrayIndexOutOfBoundsException" ["java/lang/IndexOutOfBoundsException", "java/lang/RuntimeException", "java/lang/Exception"]).filter goodWord)
def wsX4_order_r1 : List Cond := [Cond.classLink RX4 89 "java/lang/IndexOutOfBoundsException", Cond.initialized "java/lang/IndexOutOfBoundsException", Cond.classLink RX4 63 "java/lang/IllegalArgumentException", Cond.initialized "java/lang/IllegalArgumentException", Cond.classLink RX4 123 "java/lang/UnsupportedOperationException", Cond.initialized "java/lang/UnsupportedOperationException", Cond.classLink RX4 73 "java/lang/IllegalStateException", Cond.initialized "java/lang/IllegalStateException", Cond.fieldLink RX4 13 "PaperMachine" "machineWidth" "I", Cond.fieldLink RX4 27 "PaperMachine" "orderBook" "LPaperMachine$OrderBook;", Cond.methodLink RX4 86 yX4_isGrade, Cond.instanceMethod yX4_isGrade, Cond.selects RX4 yX4_isGrade yX4_isGrade, Cond.initialized RX4, Cond.code yX4_isGrade cX4_isGrade 2 (some .boolean), Cond.fieldLink RX4 70 "PaperMachine" "gradeCount" "I", Cond.methodLink RX4 55 yX4_isWithin, Cond.static yX4_isWithin, Cond.code yX4_isWithin cX4_isWithin 3 (some .boolean), Cond.methodLink RX4 128 yX3_isFull, Cond.instanceMethod yX3_isFull, Cond.selects RX3 yX3_isFull yX3_isFull, Cond.initialized RX3, Cond.code yX3_isFull cX3_isFull 1 (some .boolean)]
def wsX4_order_r2 : List Cond := [Cond.fieldLink RX3 24 "PaperMachine$OrderBook" "count" "I", Cond.methodLink RX4 134 yX3_write, Cond.instanceMethod yX3_write, Cond.selects RX3 yX3_write yX3_write, Cond.code yX3_write cX3_write 5 (some .int), Cond.fieldLink RX3 9 "PaperMachine$OrderBook" "grades" "[I", Cond.fieldLink RX3 15 "PaperMachine$OrderBook" "widths" "[I", Cond.fieldLink RX3 18 "PaperMachine$OrderBook" "rollsCut" "[I", Cond.fieldLink RX3 21 "PaperMachine$OrderBook" "lacking" "[I", Cond.methodLink RX3 28 yX3_isFull]
def wsX4_order : List Cond := .code yX4_order cX4_order 4 (some .int) :: ((wsX4_order_r1 ++ wsX4_order_r2) ++ wsX40 ++ wsX30 ++ (vx_atS RX4 93 "java/lang/IndexOutOfBoundsException" ["java/lang/RuntimeException", "java/lang/Exception"]).filter goodWord ++ (vx_atS RX4 67 "java/lang/IllegalArgumentException" ["java/lang/RuntimeException", "java/lang/Exception"]).filter goodWord ++ (vx_atS RX4 127 "java/lang/UnsupportedOperationException" ["java/lang/RuntimeException", "java/lang/Exception"]).filter goodWord ++ (vx_atS RX4 77 "java/lang/IllegalStateException" ["java/lang/RuntimeException", "java/lang/Exception"]).filter goodWord ++ (vx_atM "java/lang/ArrayIndexOutOfBoundsException" ["java/lang/IndexOutOfBoundsException", "java/lang/RuntimeException", "java/lang/Exception"]).filter goodWord)
def wsX4_cancel : List Cond := .code yX4_cancel cX4_cancel 3 (some .int) :: ([.classLink RX4 89 "java/lang/IndexOutOfBoundsException", .initialized "java/lang/IndexOutOfBoundsException", .classLink RX4 73 "java/lang/IllegalStateException", .initialized "java/lang/IllegalStateException", .fieldLink RX4 27 "PaperMachine" "orderBook" "LPaperMachine$OrderBook;", .fieldLink RX4 143 "PaperMachine$OrderBook" "lacking" "[I", .methodLink RX4 138 yX3_has, .instanceMethod yX3_has, .selects RX3 yX3_has yX3_has, .initialized RX3, .code yX3_has cX3_has 2 (some .boolean), .fieldLink RX3 24 "PaperMachine$OrderBook" "count" "I"] ++ wsX40 ++ wsX30 ++ (vx_atS RX4 93 "java/lang/IndexOutOfBoundsException" ["java/lang/RuntimeException", "java/lang/Exception"]).filter goodWord ++ (vx_atM "java/lang/ArrayIndexOutOfBoundsException" ["java/lang/IndexOutOfBoundsException", "java/lang/RuntimeException", "java/lang/Exception"]).filter goodWord ++ (vx_atS RX4 77 "java/lang/IllegalStateException" ["java/lang/RuntimeException", "java/lang/Exception"]).filter goodWord)
def wsX4_cut : List Cond := .code yX4_cut cX4_cut 2 (some .int) :: ([.classLink RX4 89 "java/lang/IndexOutOfBoundsException", .initialized "java/lang/IndexOutOfBoundsException", .fieldLink RX4 27 "PaperMachine" "orderBook" "LPaperMachine$OrderBook;", .fieldLink RX4 148 "PaperMachine$OrderBook" "rollsCut" "[I", .methodLink RX4 138 yX3_has, .instanceMethod yX3_has, .selects RX3 yX3_has yX3_has, .initialized RX3, .code yX3_has cX3_has 2 (some .boolean), .fieldLink RX3 24 "PaperMachine$OrderBook" "count" "I"] ++ wsX40 ++ wsX30 ++ (vx_atS RX4 93 "java/lang/IndexOutOfBoundsException" ["java/lang/RuntimeException", "java/lang/Exception"]).filter goodWord ++ (vx_atM "java/lang/ArrayIndexOutOfBoundsException" ["java/lang/IndexOutOfBoundsException", "java/lang/RuntimeException", "java/lang/Exception"]).filter goodWord)
def wsX4_lacks : List Cond := .code yX4_lacks cX4_lacks 2 (some .int) :: ([.classLink RX4 89 "java/lang/IndexOutOfBoundsException", .initialized "java/lang/IndexOutOfBoundsException", .fieldLink RX4 27 "PaperMachine" "orderBook" "LPaperMachine$OrderBook;", .fieldLink RX4 143 "PaperMachine$OrderBook" "lacking" "[I", .methodLink RX4 138 yX3_has, .instanceMethod yX3_has, .selects RX3 yX3_has yX3_has, .initialized RX3, .code yX3_has cX3_has 2 (some .boolean), .fieldLink RX3 24 "PaperMachine$OrderBook" "count" "I"] ++ wsX40 ++ wsX30 ++ (vx_atS RX4 93 "java/lang/IndexOutOfBoundsException" ["java/lang/RuntimeException", "java/lang/Exception"]).filter goodWord ++ (vx_atM "java/lang/ArrayIndexOutOfBoundsException" ["java/lang/IndexOutOfBoundsException", "java/lang/RuntimeException", "java/lang/Exception"]).filter goodWord)
def wsX4_trim_r1 : List Cond := [Cond.classLink RX4 89 "java/lang/IndexOutOfBoundsException", Cond.initialized "java/lang/IndexOutOfBoundsException", Cond.fieldLink RX4 34 "PaperMachine" "cutter" "LPaperMachine$Cutter;", Cond.fieldLink RX4 27 "PaperMachine" "orderBook" "LPaperMachine$OrderBook;", Cond.fieldLink RX4 13 "PaperMachine" "machineWidth" "I", Cond.methodLink RX4 86 yX4_isGrade, Cond.instanceMethod yX4_isGrade, Cond.selects RX4 yX4_isGrade yX4_isGrade, Cond.initialized RX4, Cond.code yX4_isGrade cX4_isGrade 2 (some .boolean), Cond.fieldLink RX4 70 "PaperMachine" "gradeCount" "I", Cond.methodLink RX4 151 yX1_load, Cond.instanceMethod yX1_load, Cond.selects RX1 yX1_load yX1_load, Cond.initialized RX1, Cond.code yX1_load cX1_load 7 none, Cond.methodLink RX1 30 Lib.Math.min.name, Cond.static Lib.Math.min.name, Cond.initialized "java/lang/Math", Cond.code Lib.Math.min.name Lib.Math.min.code 2 (some .int), Cond.methodLink RX1 36 Lib.Math.max.name, Cond.static Lib.Math.max.name, Cond.code Lib.Math.max.name Lib.Math.max.code 2 (some .int), Cond.fieldLink RX1 39 "PaperMachine$Cutter" "room" "I"]
def wsX4_trim_r2 : List Cond := [Cond.fieldLink RX1 49 "PaperMachine$OrderBook" "grades" "[I", Cond.fieldLink RX1 18 "PaperMachine$Cutter" "widths" "[I", Cond.fieldLink RX1 52 "PaperMachine$OrderBook" "widths" "[I", Cond.fieldLink RX1 21 "PaperMachine$Cutter" "mostRolls" "[I", Cond.fieldLink RX1 53 "PaperMachine$OrderBook" "lacking" "[I", Cond.fieldLink RX1 24 "PaperMachine$Cutter" "widestFrom" "[I", Cond.methodLink RX1 43 yX3_has, Cond.instanceMethod yX3_has, Cond.selects RX3 yX3_has yX3_has, Cond.initialized RX3, Cond.code yX3_has cX3_has 2 (some .boolean), Cond.fieldLink RX3 24 "PaperMachine$OrderBook" "count" "I", Cond.methodLink RX4 155 yX1_sumBySearch, Cond.instanceMethod yX1_sumBySearch, Cond.selects RX1 yX1_sumBySearch yX1_sumBySearch, Cond.code yX1_sumBySearch cX1_sumBySearch 1 (some .int), Cond.fieldLink RX1 56 "PaperMachine$Cutter" "bestSum" "I", Cond.fieldLink RX1 9 "PaperMachine$Cutter" "best" "[I", Cond.methodLink RX1 59 yJ7_fill_53178, Cond.static yJ7_fill_53178, Cond.initialized RJ7, Cond.code yJ7_fill_53178 cJ7_fill_53178 4 none, Cond.methodLink RX1 65 yX1_search, Cond.static yX1_search]
def wsX4_trim_r3 : List Cond := [Cond.code yX1_search cX1_search 7 none, Cond.fieldLink RX1 15 "PaperMachine$Cutter" "trial" "[I", Cond.methodLink RX1 69 yX1_keepIfGreater, Cond.instanceMethod yX1_keepIfGreater, Cond.selects RX1 yX1_keepIfGreater yX1_keepIfGreater, Cond.code yX1_keepIfGreater cX1_keepIfGreater 2 none, Cond.methodLink RX1 73 arraycopyName, Cond.native arraycopyName, Cond.static arraycopyName, Cond.initialized "java/lang/System"]
def wsX4_trim : List Cond := .code yX4_trim cX4_trim 2 (some .int) :: ((wsX4_trim_r1 ++ (wsX4_trim_r2 ++ wsX4_trim_r3)) ++ wsX40 ++ wsX10 ++ wsX30 ++ (vx_atS RX4 93 "java/lang/IndexOutOfBoundsException" ["java/lang/RuntimeException", "java/lang/Exception"]).filter goodWord ++ (vx_atM "java/lang/ArrayIndexOutOfBoundsException" ["java/lang/IndexOutOfBoundsException", "java/lang/RuntimeException", "java/lang/Exception"]).filter goodWord)
def wsX4_trimByTable_r1 : List Cond := [Cond.classLink RX4 89 "java/lang/IndexOutOfBoundsException", Cond.initialized "java/lang/IndexOutOfBoundsException", Cond.fieldLink RX4 34 "PaperMachine" "cutter" "LPaperMachine$Cutter;", Cond.fieldLink RX4 27 "PaperMachine" "orderBook" "LPaperMachine$OrderBook;", Cond.fieldLink RX4 13 "PaperMachine" "machineWidth" "I", Cond.methodLink RX4 86 yX4_isGrade, Cond.instanceMethod yX4_isGrade, Cond.selects RX4 yX4_isGrade yX4_isGrade, Cond.initialized RX4, Cond.code yX4_isGrade cX4_isGrade 2 (some .boolean), Cond.fieldLink RX4 70 "PaperMachine" "gradeCount" "I", Cond.methodLink RX4 151 yX1_load, Cond.instanceMethod yX1_load, Cond.selects RX1 yX1_load yX1_load, Cond.initialized RX1, Cond.code yX1_load cX1_load 7 none, Cond.methodLink RX1 30 Lib.Math.min.name, Cond.static Lib.Math.min.name, Cond.initialized "java/lang/Math", Cond.code Lib.Math.min.name Lib.Math.min.code 2 (some .int), Cond.methodLink RX1 36 Lib.Math.max.name, Cond.static Lib.Math.max.name, Cond.code Lib.Math.max.name Lib.Math.max.code 2 (some .int), Cond.fieldLink RX1 39 "PaperMachine$Cutter" "room" "I"]
def wsX4_trimByTable_r2 : List Cond := [Cond.fieldLink RX1 49 "PaperMachine$OrderBook" "grades" "[I", Cond.fieldLink RX1 18 "PaperMachine$Cutter" "widths" "[I", Cond.fieldLink RX1 52 "PaperMachine$OrderBook" "widths" "[I", Cond.fieldLink RX1 21 "PaperMachine$Cutter" "mostRolls" "[I", Cond.fieldLink RX1 53 "PaperMachine$OrderBook" "lacking" "[I", Cond.fieldLink RX1 24 "PaperMachine$Cutter" "widestFrom" "[I", Cond.methodLink RX1 43 yX3_has, Cond.instanceMethod yX3_has, Cond.selects RX3 yX3_has yX3_has, Cond.initialized RX3, Cond.code yX3_has cX3_has 2 (some .boolean), Cond.fieldLink RX3 24 "PaperMachine$OrderBook" "count" "I", Cond.methodLink RX4 158 yX1_sumByTable, Cond.instanceMethod yX1_sumByTable, Cond.selects RX1 yX1_sumByTable yX1_sumByTable, Cond.code yX1_sumByTable cX1_sumByTable 3 (some .int), Cond.fieldLink RX1 27 "PaperMachine$Cutter" "fewest" "[I", Cond.methodLink RX1 59 yJ7_fill_53178, Cond.static yJ7_fill_53178, Cond.initialized RJ7, Cond.code yJ7_fill_53178 cJ7_fill_53178 4 none, Cond.methodLink RX1 79 yX1_addRollToTable, Cond.instanceMethod yX1_addRollToTable, Cond.selects RX1 yX1_addRollToTable yX1_addRollToTable]
def wsX4_trimByTable_r3 : List Cond := [Cond.code yX1_addRollToTable cX1_addRollToTable 3 none]
def wsX4_trimByTable : List Cond := .code yX4_trimByTable cX4_trimByTable 2 (some .int) :: ((wsX4_trimByTable_r1 ++ (wsX4_trimByTable_r2 ++ wsX4_trimByTable_r3)) ++ wsX40 ++ wsX10 ++ wsX30 ++ (vx_atS RX4 93 "java/lang/IndexOutOfBoundsException" ["java/lang/RuntimeException", "java/lang/Exception"]).filter goodWord ++ (vx_atM "java/lang/ArrayIndexOutOfBoundsException" ["java/lang/IndexOutOfBoundsException", "java/lang/RuntimeException", "java/lang/Exception"]).filter goodWord)
def wsX4_inCut_r1 : List Cond := [Cond.classLink RX4 89 "java/lang/IndexOutOfBoundsException", Cond.initialized "java/lang/IndexOutOfBoundsException", Cond.fieldLink RX4 27 "PaperMachine" "orderBook" "LPaperMachine$OrderBook;", Cond.fieldLink RX4 34 "PaperMachine" "cutter" "LPaperMachine$Cutter;", Cond.fieldLink RX4 161 "PaperMachine$OrderBook" "grades" "[I", Cond.fieldLink RX4 13 "PaperMachine" "machineWidth" "I", Cond.fieldLink RX4 164 "PaperMachine$Cutter" "best" "[I", Cond.methodLink RX4 138 yX3_has, Cond.instanceMethod yX3_has, Cond.selects RX3 yX3_has yX3_has, Cond.initialized RX3, Cond.code yX3_has cX3_has 2 (some .boolean), Cond.fieldLink RX3 24 "PaperMachine$OrderBook" "count" "I", Cond.methodLink RX4 151 yX1_load, Cond.instanceMethod yX1_load, Cond.selects RX1 yX1_load yX1_load, Cond.initialized RX1, Cond.code yX1_load cX1_load 7 none, Cond.methodLink RX1 30 Lib.Math.min.name, Cond.static Lib.Math.min.name, Cond.initialized "java/lang/Math", Cond.code Lib.Math.min.name Lib.Math.min.code 2 (some .int), Cond.methodLink RX1 36 Lib.Math.max.name, Cond.static Lib.Math.max.name]
def wsX4_inCut_r2 : List Cond := [Cond.code Lib.Math.max.name Lib.Math.max.code 2 (some .int), Cond.fieldLink RX1 39 "PaperMachine$Cutter" "room" "I", Cond.fieldLink RX1 49 "PaperMachine$OrderBook" "grades" "[I", Cond.fieldLink RX1 18 "PaperMachine$Cutter" "widths" "[I", Cond.fieldLink RX1 52 "PaperMachine$OrderBook" "widths" "[I", Cond.fieldLink RX1 21 "PaperMachine$Cutter" "mostRolls" "[I", Cond.fieldLink RX1 53 "PaperMachine$OrderBook" "lacking" "[I", Cond.fieldLink RX1 24 "PaperMachine$Cutter" "widestFrom" "[I", Cond.methodLink RX1 43 yX3_has, Cond.methodLink RX4 155 yX1_sumBySearch, Cond.instanceMethod yX1_sumBySearch, Cond.selects RX1 yX1_sumBySearch yX1_sumBySearch, Cond.code yX1_sumBySearch cX1_sumBySearch 1 (some .int), Cond.fieldLink RX1 56 "PaperMachine$Cutter" "bestSum" "I", Cond.fieldLink RX1 9 "PaperMachine$Cutter" "best" "[I", Cond.methodLink RX1 59 yJ7_fill_53178, Cond.static yJ7_fill_53178, Cond.initialized RJ7, Cond.code yJ7_fill_53178 cJ7_fill_53178 4 none, Cond.methodLink RX1 65 yX1_search, Cond.static yX1_search, Cond.code yX1_search cX1_search 7 none, Cond.fieldLink RX1 15 "PaperMachine$Cutter" "trial" "[I", Cond.methodLink RX1 69 yX1_keepIfGreater]
def wsX4_inCut_r3 : List Cond := [Cond.instanceMethod yX1_keepIfGreater, Cond.selects RX1 yX1_keepIfGreater yX1_keepIfGreater, Cond.code yX1_keepIfGreater cX1_keepIfGreater 2 none, Cond.methodLink RX1 73 arraycopyName, Cond.native arraycopyName, Cond.static arraycopyName, Cond.initialized "java/lang/System"]
def wsX4_inCut : List Cond := .code yX4_inCut cX4_inCut 2 (some .int) :: ((wsX4_inCut_r1 ++ (wsX4_inCut_r2 ++ wsX4_inCut_r3)) ++ wsX40 ++ wsX30 ++ wsX10 ++ (vx_atS RX4 93 "java/lang/IndexOutOfBoundsException" ["java/lang/RuntimeException", "java/lang/Exception"]).filter goodWord ++ (vx_atM "java/lang/ArrayIndexOutOfBoundsException" ["java/lang/IndexOutOfBoundsException", "java/lang/RuntimeException", "java/lang/Exception"]).filter goodWord)
def wsX4_quotientUp : List Cond := .code yX4_quotientUp cX4_quotientUp 2 (some .int) :: ([] ++ (vx_atM "java/lang/ArithmeticException" ["java/lang/RuntimeException", "java/lang/Exception"]).filter goodWord)
def wsX4_leastHours_r1 : List Cond := [Cond.classLink RX4 89 "java/lang/IndexOutOfBoundsException", Cond.initialized "java/lang/IndexOutOfBoundsException", Cond.fieldLink RX4 27 "PaperMachine" "orderBook" "LPaperMachine$OrderBook;", Cond.fieldLink RX4 13 "PaperMachine" "machineWidth" "I", Cond.methodLink RX4 177 Lib.Math.max.name, Cond.static Lib.Math.max.name, Cond.initialized "java/lang/Math", Cond.code Lib.Math.max.name Lib.Math.max.code 2 (some .int), Cond.methodLink RX4 86 yX4_isGrade, Cond.instanceMethod yX4_isGrade, Cond.selects RX4 yX4_isGrade yX4_isGrade, Cond.initialized RX4, Cond.code yX4_isGrade cX4_isGrade 2 (some .boolean), Cond.fieldLink RX4 70 "PaperMachine" "gradeCount" "I", Cond.methodLink RX4 167 yX3_widthLacking, Cond.instanceMethod yX3_widthLacking, Cond.selects RX3 yX3_widthLacking yX3_widthLacking, Cond.initialized RX3, Cond.code yX3_widthLacking cX3_widthLacking 4 (some .int), Cond.fieldLink RX3 24 "PaperMachine$OrderBook" "count" "I", Cond.fieldLink RX3 9 "PaperMachine$OrderBook" "grades" "[I", Cond.fieldLink RX3 21 "PaperMachine$OrderBook" "lacking" "[I", Cond.fieldLink RX3 15 "PaperMachine$OrderBook" "widths" "[I", Cond.methodLink RX4 170 yX4_quotientUp]
def wsX4_leastHours_r2 : List Cond := [Cond.static yX4_quotientUp, Cond.code yX4_quotientUp cX4_quotientUp 2 (some .int), Cond.methodLink RX4 174 yX3_rollsLacking, Cond.instanceMethod yX3_rollsLacking, Cond.selects RX3 yX3_rollsLacking yX3_rollsLacking, Cond.code yX3_rollsLacking cX3_rollsLacking 4 (some .int)]
def wsX4_leastHours : List Cond := .code yX4_leastHours cX4_leastHours 4 (some .int) :: ((wsX4_leastHours_r1 ++ wsX4_leastHours_r2) ++ wsX40 ++ wsX30 ++ (vx_atS RX4 93 "java/lang/IndexOutOfBoundsException" ["java/lang/RuntimeException", "java/lang/Exception"]).filter goodWord ++ (vx_atM "java/lang/ArrayIndexOutOfBoundsException" ["java/lang/IndexOutOfBoundsException", "java/lang/RuntimeException", "java/lang/Exception"]).filter goodWord ++ (vx_atM "java/lang/ArithmeticException" ["java/lang/RuntimeException", "java/lang/Exception"]).filter goodWord)
def wsX4_setShare : List Cond := .code yX4_setShare cX4_setShare 3 (some .int) :: ([.classLink RX4 63 "java/lang/IllegalArgumentException", .initialized "java/lang/IllegalArgumentException", .fieldLink RX4 52 "PaperMachine" "share" "I", .methodLink RX4 55 yX4_isWithin, .static yX4_isWithin, .initialized RX4, .code yX4_isWithin cX4_isWithin 3 (some .boolean)] ++ wsX40 ++ (vx_atS RX4 67 "java/lang/IllegalArgumentException" ["java/lang/RuntimeException", "java/lang/Exception"]).filter goodWord)
def wsX4_setContract : List Cond := .code yX4_setContract cX4_setContract 5 (some .int) :: ([.classLink RX4 63 "java/lang/IllegalArgumentException", .initialized "java/lang/IllegalArgumentException", .fieldLink RX4 41 "PaperMachine" "contract" "LPaperMachine$Contract;", .fieldLink RX4 184 "PaperMachine$Contract" "limit" "I", .fieldLink RX4 187 "PaperMachine$Contract" "firstPrice" "I", .fieldLink RX4 190 "PaperMachine$Contract" "secondPrice" "I", .methodLink RX4 55 yX4_isWithin, .static yX4_isWithin, .initialized RX4, .code yX4_isWithin cX4_isWithin 3 (some .boolean)] ++ wsX40 ++ wsX00 ++ (vx_atS RX4 67 "java/lang/IllegalArgumentException" ["java/lang/RuntimeException", "java/lang/Exception"]).filter goodWord)
def wsX4_make_r1 : List Cond := [Cond.fieldLink RX4 203 "PaperMachine" "brokeKept" "I", Cond.fieldLink RX4 52 "PaperMachine" "share" "I", Cond.methodLink RX4 263 Lib.Math.min.name, Cond.static Lib.Math.min.name, Cond.initialized "java/lang/Math", Cond.code Lib.Math.min.name Lib.Math.min.code 2 (some .int), Cond.fieldLink RX4 48 "PaperMachine" "hourBook" "LPaperMachine$HourBook;", Cond.fieldLink RX4 229 "PaperMachine$HourBook" "massSum" "J", Cond.fieldLink RX4 226 "PaperMachine" "steamSum" "J", Cond.fieldLink RX4 41 "PaperMachine" "contract" "LPaperMachine$Contract;", Cond.methodLink RX4 266 yX2_writeMade, Cond.instanceMethod yX2_writeMade, Cond.selects RX2 yX2_writeMade yX2_writeMade, Cond.initialized RX2, Cond.code yX2_writeMade cX2_writeMade 5 none, Cond.fieldLink RX2 25 "PaperMachine$HourBook" "count" "I", Cond.fieldLink RX2 9 "PaperMachine$HourBook" "kinds" "[C", Cond.fieldLink RX2 15 "PaperMachine$HourBook" "freshIn" "[I", Cond.fieldLink RX2 19 "PaperMachine$HourBook" "paperOut" "[I", Cond.fieldLink RX2 22 "PaperMachine$HourBook" "lossOut" "[I", Cond.fieldLink RX2 33 "PaperMachine$HourBook" "freshSum" "J", Cond.fieldLink RX2 37 "PaperMachine$HourBook" "paperSum" "J", Cond.fieldLink RX2 40 "PaperMachine$HourBook" "lossSum" "J", Cond.methodLink RX4 270 yX0_cost]
def wsX4_make_r2 : List Cond := [Cond.instanceMethod yX0_cost, Cond.selects RX0 yX0_cost yX0_cost, Cond.initialized RX0, Cond.code yX0_cost cX0_cost 3 (some .long), Cond.fieldLink RX0 7 "PaperMachine$Contract" "limit" "I", Cond.methodLink RX0 19 Lib.Math.min.name, Cond.fieldLink RX0 13 "PaperMachine$Contract" "firstPrice" "I", Cond.fieldLink RX0 16 "PaperMachine$Contract" "secondPrice" "I"]
def wsX4_make : List Cond := .code yX4_make cX4_make 7 none :: ((wsX4_make_r1 ++ wsX4_make_r2) ++ wsX40 ++ wsX20 ++ wsX00 ++ (vx_atM "java/lang/ArrayIndexOutOfBoundsException" ["java/lang/IndexOutOfBoundsException", "java/lang/RuntimeException", "java/lang/Exception"]).filter goodWord)
def wsX4_quotient : List Cond := .code yX4_quotient cX4_quotient 2 (some .int) :: ([] ++ (vx_atM "java/lang/ArithmeticException" ["java/lang/RuntimeException", "java/lang/Exception"]).filter goodWord)
def wsX4_passAnHour_r1 : List Cond := [Cond.fieldLink RX4 17 "PaperMachine" "machineGrade" "I", Cond.fieldLink RX4 48 "PaperMachine" "hourBook" "LPaperMachine$HourBook;", Cond.fieldLink RX4 96 "PaperMachine" "changeHours" "I", Cond.fieldLink RX4 34 "PaperMachine" "cutter" "LPaperMachine$Cutter;", Cond.fieldLink RX4 27 "PaperMachine" "orderBook" "LPaperMachine$OrderBook;", Cond.fieldLink RX4 13 "PaperMachine" "machineWidth" "I", Cond.fieldLink RX4 164 "PaperMachine$Cutter" "best" "[I", Cond.methodLink RX4 86 yX4_isGrade, Cond.instanceMethod yX4_isGrade, Cond.selects RX4 yX4_isGrade yX4_isGrade, Cond.initialized RX4, Cond.code yX4_isGrade cX4_isGrade 2 (some .boolean), Cond.fieldLink RX4 70 "PaperMachine" "gradeCount" "I", Cond.methodLink RX4 245 yX2_writeNothing, Cond.instanceMethod yX2_writeNothing, Cond.selects RX2 yX2_writeNothing yX2_writeNothing, Cond.initialized RX2, Cond.code yX2_writeNothing cX2_writeNothing 1 none, Cond.methodLink RX2 29 yX2_writeMade, Cond.instanceMethod yX2_writeMade, Cond.selects RX2 yX2_writeMade yX2_writeMade, Cond.code yX2_writeMade cX2_writeMade 5 none, Cond.fieldLink RX2 25 "PaperMachine$HourBook" "count" "I", Cond.fieldLink RX2 9 "PaperMachine$HourBook" "kinds" "[C"]
def wsX4_passAnHour_r2 : List Cond := [Cond.fieldLink RX2 15 "PaperMachine$HourBook" "freshIn" "[I", Cond.fieldLink RX2 19 "PaperMachine$HourBook" "paperOut" "[I", Cond.fieldLink RX2 22 "PaperMachine$HourBook" "lossOut" "[I", Cond.fieldLink RX2 33 "PaperMachine$HourBook" "freshSum" "J", Cond.fieldLink RX2 37 "PaperMachine$HourBook" "paperSum" "J", Cond.fieldLink RX2 40 "PaperMachine$HourBook" "lossSum" "J", Cond.methodLink RX4 118 yX4_massOfAnHour, Cond.instanceMethod yX4_massOfAnHour, Cond.selects RX4 yX4_massOfAnHour yX4_massOfAnHour, Cond.code yX4_massOfAnHour cX4_massOfAnHour 2 (some .int), Cond.fieldLink RX4 9 "PaperMachine" "weights" "[I", Cond.methodLink RX4 248 yX4_make, Cond.instanceMethod yX4_make, Cond.selects RX4 yX4_make yX4_make, Cond.code yX4_make cX4_make 7 none, Cond.fieldLink RX4 203 "PaperMachine" "brokeKept" "I", Cond.fieldLink RX4 52 "PaperMachine" "share" "I", Cond.methodLink RX4 263 Lib.Math.min.name, Cond.static Lib.Math.min.name, Cond.initialized "java/lang/Math", Cond.code Lib.Math.min.name Lib.Math.min.code 2 (some .int), Cond.fieldLink RX4 229 "PaperMachine$HourBook" "massSum" "J", Cond.fieldLink RX4 226 "PaperMachine" "steamSum" "J", Cond.fieldLink RX4 41 "PaperMachine" "contract" "LPaperMachine$Contract;"]
def wsX4_passAnHour_r3 : List Cond := [Cond.methodLink RX4 266 yX2_writeMade, Cond.methodLink RX4 270 yX0_cost, Cond.instanceMethod yX0_cost, Cond.selects RX0 yX0_cost yX0_cost, Cond.initialized RX0, Cond.code yX0_cost cX0_cost 3 (some .long), Cond.fieldLink RX0 7 "PaperMachine$Contract" "limit" "I", Cond.methodLink RX0 19 Lib.Math.min.name, Cond.fieldLink RX0 13 "PaperMachine$Contract" "firstPrice" "I", Cond.fieldLink RX0 16 "PaperMachine$Contract" "secondPrice" "I", Cond.methodLink RX4 151 yX1_load, Cond.instanceMethod yX1_load, Cond.selects RX1 yX1_load yX1_load, Cond.initialized RX1, Cond.code yX1_load cX1_load 7 none, Cond.methodLink RX1 30 Lib.Math.min.name, Cond.methodLink RX1 36 Lib.Math.max.name, Cond.static Lib.Math.max.name, Cond.code Lib.Math.max.name Lib.Math.max.code 2 (some .int), Cond.fieldLink RX1 39 "PaperMachine$Cutter" "room" "I", Cond.fieldLink RX1 49 "PaperMachine$OrderBook" "grades" "[I", Cond.fieldLink RX1 18 "PaperMachine$Cutter" "widths" "[I", Cond.fieldLink RX1 52 "PaperMachine$OrderBook" "widths" "[I", Cond.fieldLink RX1 21 "PaperMachine$Cutter" "mostRolls" "[I"]
def wsX4_passAnHour_r4 : List Cond := [Cond.fieldLink RX1 53 "PaperMachine$OrderBook" "lacking" "[I", Cond.fieldLink RX1 24 "PaperMachine$Cutter" "widestFrom" "[I", Cond.methodLink RX1 43 yX3_has, Cond.instanceMethod yX3_has, Cond.selects RX3 yX3_has yX3_has, Cond.initialized RX3, Cond.code yX3_has cX3_has 2 (some .boolean), Cond.fieldLink RX3 24 "PaperMachine$OrderBook" "count" "I", Cond.methodLink RX4 155 yX1_sumBySearch, Cond.instanceMethod yX1_sumBySearch, Cond.selects RX1 yX1_sumBySearch yX1_sumBySearch, Cond.code yX1_sumBySearch cX1_sumBySearch 1 (some .int), Cond.fieldLink RX1 56 "PaperMachine$Cutter" "bestSum" "I", Cond.fieldLink RX1 9 "PaperMachine$Cutter" "best" "[I", Cond.methodLink RX1 59 yJ7_fill_53178, Cond.static yJ7_fill_53178, Cond.initialized RJ7, Cond.code yJ7_fill_53178 cJ7_fill_53178 4 none, Cond.methodLink RX1 65 yX1_search, Cond.static yX1_search, Cond.code yX1_search cX1_search 7 none, Cond.fieldLink RX1 15 "PaperMachine$Cutter" "trial" "[I", Cond.methodLink RX1 69 yX1_keepIfGreater, Cond.instanceMethod yX1_keepIfGreater]
def wsX4_passAnHour_r5 : List Cond := [Cond.selects RX1 yX1_keepIfGreater yX1_keepIfGreater, Cond.code yX1_keepIfGreater cX1_keepIfGreater 2 none, Cond.methodLink RX1 73 arraycopyName, Cond.native arraycopyName, Cond.static arraycopyName, Cond.initialized "java/lang/System", Cond.methodLink RX4 252 yX4_quotient, Cond.static yX4_quotient, Cond.code yX4_quotient cX4_quotient 2 (some .int), Cond.methodLink RX4 255 yX2_writeTrim, Cond.instanceMethod yX2_writeTrim, Cond.selects RX2 yX2_writeTrim yX2_writeTrim, Cond.code yX2_writeTrim cX2_writeTrim 2 none, Cond.fieldLink RX2 43 "PaperMachine$HourBook" "trimSum" "J", Cond.fieldLink RX2 46 "PaperMachine$HourBook" "paperHours" "I", Cond.methodLink RX4 259 yX3_takeOff, Cond.instanceMethod yX3_takeOff, Cond.selects RX3 yX3_takeOff yX3_takeOff, Cond.code yX3_takeOff cX3_takeOff 4 (some .int), Cond.fieldLink RX3 18 "PaperMachine$OrderBook" "rollsCut" "[I", Cond.fieldLink RX3 21 "PaperMachine$OrderBook" "lacking" "[I"]
def wsX4_passAnHour : List Cond := .code yX4_passAnHour cX4_passAnHour 4 (some .int) :: ((wsX4_passAnHour_r1 ++ (wsX4_passAnHour_r2 ++ (wsX4_passAnHour_r3 ++ (wsX4_passAnHour_r4 ++ wsX4_passAnHour_r5)))) ++ wsX40 ++ wsX10 ++ wsX20 ++ wsX00 ++ wsX30 ++ (vx_atM "java/lang/ArrayIndexOutOfBoundsException" ["java/lang/IndexOutOfBoundsException", "java/lang/RuntimeException", "java/lang/Exception"]).filter goodWord ++ (vx_atM "java/lang/ArithmeticException" ["java/lang/RuntimeException", "java/lang/Exception"]).filter goodWord)
def wsX4_pass_r1 : List Cond := [Cond.classLink RX4 63 "java/lang/IllegalArgumentException", Cond.initialized "java/lang/IllegalArgumentException", Cond.classLink RX4 73 "java/lang/IllegalStateException", Cond.initialized "java/lang/IllegalStateException", Cond.fieldLink RX4 48 "PaperMachine" "hourBook" "LPaperMachine$HourBook;", Cond.fieldLink RX4 195 "PaperMachine$HourBook" "count" "I", Cond.methodLink RX4 55 yX4_isWithin, Cond.static yX4_isWithin, Cond.initialized RX4, Cond.code yX4_isWithin cX4_isWithin 3 (some .boolean), Cond.methodLink RX4 200 yX4_passAnHour, Cond.instanceMethod yX4_passAnHour, Cond.selects RX4 yX4_passAnHour yX4_passAnHour, Cond.code yX4_passAnHour cX4_passAnHour 4 (some .int), Cond.fieldLink RX4 17 "PaperMachine" "machineGrade" "I", Cond.fieldLink RX4 96 "PaperMachine" "changeHours" "I", Cond.fieldLink RX4 34 "PaperMachine" "cutter" "LPaperMachine$Cutter;", Cond.fieldLink RX4 27 "PaperMachine" "orderBook" "LPaperMachine$OrderBook;", Cond.fieldLink RX4 13 "PaperMachine" "machineWidth" "I", Cond.fieldLink RX4 164 "PaperMachine$Cutter" "best" "[I", Cond.methodLink RX4 86 yX4_isGrade, Cond.instanceMethod yX4_isGrade, Cond.selects RX4 yX4_isGrade yX4_isGrade, Cond.code yX4_isGrade cX4_isGrade 2 (some .boolean)]
def wsX4_pass_r2 : List Cond := [Cond.fieldLink RX4 70 "PaperMachine" "gradeCount" "I", Cond.methodLink RX4 245 yX2_writeNothing, Cond.instanceMethod yX2_writeNothing, Cond.selects RX2 yX2_writeNothing yX2_writeNothing, Cond.initialized RX2, Cond.code yX2_writeNothing cX2_writeNothing 1 none, Cond.methodLink RX2 29 yX2_writeMade, Cond.instanceMethod yX2_writeMade, Cond.selects RX2 yX2_writeMade yX2_writeMade, Cond.code yX2_writeMade cX2_writeMade 5 none, Cond.fieldLink RX2 25 "PaperMachine$HourBook" "count" "I", Cond.fieldLink RX2 9 "PaperMachine$HourBook" "kinds" "[C", Cond.fieldLink RX2 15 "PaperMachine$HourBook" "freshIn" "[I", Cond.fieldLink RX2 19 "PaperMachine$HourBook" "paperOut" "[I", Cond.fieldLink RX2 22 "PaperMachine$HourBook" "lossOut" "[I", Cond.fieldLink RX2 33 "PaperMachine$HourBook" "freshSum" "J", Cond.fieldLink RX2 37 "PaperMachine$HourBook" "paperSum" "J", Cond.fieldLink RX2 40 "PaperMachine$HourBook" "lossSum" "J", Cond.methodLink RX4 118 yX4_massOfAnHour, Cond.instanceMethod yX4_massOfAnHour, Cond.selects RX4 yX4_massOfAnHour yX4_massOfAnHour, Cond.code yX4_massOfAnHour cX4_massOfAnHour 2 (some .int), Cond.fieldLink RX4 9 "PaperMachine" "weights" "[I", Cond.methodLink RX4 248 yX4_make]
def wsX4_pass_r3 : List Cond := [Cond.instanceMethod yX4_make, Cond.selects RX4 yX4_make yX4_make, Cond.code yX4_make cX4_make 7 none, Cond.fieldLink RX4 203 "PaperMachine" "brokeKept" "I", Cond.fieldLink RX4 52 "PaperMachine" "share" "I", Cond.methodLink RX4 263 Lib.Math.min.name, Cond.static Lib.Math.min.name, Cond.initialized "java/lang/Math", Cond.code Lib.Math.min.name Lib.Math.min.code 2 (some .int), Cond.fieldLink RX4 229 "PaperMachine$HourBook" "massSum" "J", Cond.fieldLink RX4 226 "PaperMachine" "steamSum" "J", Cond.fieldLink RX4 41 "PaperMachine" "contract" "LPaperMachine$Contract;", Cond.methodLink RX4 266 yX2_writeMade, Cond.methodLink RX4 270 yX0_cost, Cond.instanceMethod yX0_cost, Cond.selects RX0 yX0_cost yX0_cost, Cond.initialized RX0, Cond.code yX0_cost cX0_cost 3 (some .long), Cond.fieldLink RX0 7 "PaperMachine$Contract" "limit" "I", Cond.methodLink RX0 19 Lib.Math.min.name, Cond.fieldLink RX0 13 "PaperMachine$Contract" "firstPrice" "I", Cond.fieldLink RX0 16 "PaperMachine$Contract" "secondPrice" "I", Cond.methodLink RX4 151 yX1_load, Cond.instanceMethod yX1_load]
def wsX4_pass_r4 : List Cond := [Cond.selects RX1 yX1_load yX1_load, Cond.initialized RX1, Cond.code yX1_load cX1_load 7 none, Cond.methodLink RX1 30 Lib.Math.min.name, Cond.methodLink RX1 36 Lib.Math.max.name, Cond.static Lib.Math.max.name, Cond.code Lib.Math.max.name Lib.Math.max.code 2 (some .int), Cond.fieldLink RX1 39 "PaperMachine$Cutter" "room" "I", Cond.fieldLink RX1 49 "PaperMachine$OrderBook" "grades" "[I", Cond.fieldLink RX1 18 "PaperMachine$Cutter" "widths" "[I", Cond.fieldLink RX1 52 "PaperMachine$OrderBook" "widths" "[I", Cond.fieldLink RX1 21 "PaperMachine$Cutter" "mostRolls" "[I", Cond.fieldLink RX1 53 "PaperMachine$OrderBook" "lacking" "[I", Cond.fieldLink RX1 24 "PaperMachine$Cutter" "widestFrom" "[I", Cond.methodLink RX1 43 yX3_has, Cond.instanceMethod yX3_has, Cond.selects RX3 yX3_has yX3_has, Cond.initialized RX3, Cond.code yX3_has cX3_has 2 (some .boolean), Cond.fieldLink RX3 24 "PaperMachine$OrderBook" "count" "I", Cond.methodLink RX4 155 yX1_sumBySearch, Cond.instanceMethod yX1_sumBySearch, Cond.selects RX1 yX1_sumBySearch yX1_sumBySearch, Cond.code yX1_sumBySearch cX1_sumBySearch 1 (some .int)]
def wsX4_pass_r5 : List Cond := [Cond.fieldLink RX1 56 "PaperMachine$Cutter" "bestSum" "I", Cond.fieldLink RX1 9 "PaperMachine$Cutter" "best" "[I", Cond.methodLink RX1 59 yJ7_fill_53178, Cond.static yJ7_fill_53178, Cond.initialized RJ7, Cond.code yJ7_fill_53178 cJ7_fill_53178 4 none, Cond.methodLink RX1 65 yX1_search, Cond.static yX1_search, Cond.code yX1_search cX1_search 7 none, Cond.fieldLink RX1 15 "PaperMachine$Cutter" "trial" "[I", Cond.methodLink RX1 69 yX1_keepIfGreater, Cond.instanceMethod yX1_keepIfGreater, Cond.selects RX1 yX1_keepIfGreater yX1_keepIfGreater, Cond.code yX1_keepIfGreater cX1_keepIfGreater 2 none, Cond.methodLink RX1 73 arraycopyName, Cond.native arraycopyName, Cond.static arraycopyName, Cond.initialized "java/lang/System", Cond.methodLink RX4 252 yX4_quotient, Cond.static yX4_quotient, Cond.code yX4_quotient cX4_quotient 2 (some .int), Cond.methodLink RX4 255 yX2_writeTrim, Cond.instanceMethod yX2_writeTrim, Cond.selects RX2 yX2_writeTrim yX2_writeTrim]
def wsX4_pass_r6 : List Cond := [Cond.code yX2_writeTrim cX2_writeTrim 2 none, Cond.fieldLink RX2 43 "PaperMachine$HourBook" "trimSum" "J", Cond.fieldLink RX2 46 "PaperMachine$HourBook" "paperHours" "I", Cond.methodLink RX4 259 yX3_takeOff, Cond.instanceMethod yX3_takeOff, Cond.selects RX3 yX3_takeOff yX3_takeOff, Cond.code yX3_takeOff cX3_takeOff 4 (some .int), Cond.fieldLink RX3 18 "PaperMachine$OrderBook" "rollsCut" "[I", Cond.fieldLink RX3 21 "PaperMachine$OrderBook" "lacking" "[I"]
def wsX4_pass : List Cond := .code yX4_pass cX4_pass 4 (some .int) :: ((wsX4_pass_r1 ++ (wsX4_pass_r2 ++ (wsX4_pass_r3 ++ (wsX4_pass_r4 ++ (wsX4_pass_r5 ++ wsX4_pass_r6))))) ++ wsX40 ++ wsX20 ++ wsX10 ++ wsX00 ++ wsX30 ++ (vx_atS RX4 67 "java/lang/IllegalArgumentException" ["java/lang/RuntimeException", "java/lang/Exception"]).filter goodWord ++ (vx_atS RX4 77 "java/lang/IllegalStateException" ["java/lang/RuntimeException", "java/lang/Exception"]).filter goodWord ++ (vx_atM "java/lang/ArrayIndexOutOfBoundsException" ["java/lang/IndexOutOfBoundsException", "java/lang/RuntimeException", "java/lang/Exception"]).filter goodWord ++ (vx_atM "java/lang/ArithmeticException" ["java/lang/RuntimeException", "java/lang/Exception"]).filter goodWord)
def wsX4_hours : List Cond := .code yX4_hours cX4_hours 1 (some .int) :: ([.fieldLink RX4 48 "PaperMachine" "hourBook" "LPaperMachine$HourBook;", .fieldLink RX4 195 "PaperMachine$HourBook" "count" "I"] ++ wsX40 ++ wsX20)
def wsX4_broke : List Cond := .code yX4_broke cX4_broke 1 (some .int) :: ([.fieldLink RX4 203 "PaperMachine" "brokeKept" "I"] ++ wsX40)
def wsX4_brokeByHours : List Cond := .code yX4_brokeByHours cX4_brokeByHours 1 (some .int) :: ([.fieldLink RX4 48 "PaperMachine" "hourBook" "LPaperMachine$HourBook;", .methodLink RX4 206 yX2_fibreStillThere, .instanceMethod yX2_fibreStillThere, .selects RX2 yX2_fibreStillThere yX2_fibreStillThere, .initialized RX2, .code yX2_fibreStillThere cX2_fibreStillThere 3 (some .int), .fieldLink RX2 25 "PaperMachine$HourBook" "count" "I", .fieldLink RX2 15 "PaperMachine$HourBook" "freshIn" "[I", .fieldLink RX2 19 "PaperMachine$HourBook" "paperOut" "[I", .fieldLink RX2 22 "PaperMachine$HourBook" "lossOut" "[I"] ++ wsX40 ++ wsX20 ++ (vx_atM "java/lang/ArrayIndexOutOfBoundsException" ["java/lang/IndexOutOfBoundsException", "java/lang/RuntimeException", "java/lang/Exception"]).filter goodWord)
def wsX4_fresh : List Cond := .code yX4_fresh cX4_fresh 1 (some .long) :: ([.fieldLink RX4 48 "PaperMachine" "hourBook" "LPaperMachine$HourBook;", .fieldLink RX4 209 "PaperMachine$HourBook" "freshSum" "J"] ++ wsX40 ++ wsX20)
def wsX4_paper : List Cond := .code yX4_paper cX4_paper 1 (some .long) :: ([.fieldLink RX4 48 "PaperMachine" "hourBook" "LPaperMachine$HourBook;", .fieldLink RX4 213 "PaperMachine$HourBook" "paperSum" "J"] ++ wsX40 ++ wsX20)
def wsX4_lost : List Cond := .code yX4_lost cX4_lost 1 (some .long) :: ([.fieldLink RX4 48 "PaperMachine" "hourBook" "LPaperMachine$HourBook;", .fieldLink RX4 216 "PaperMachine$HourBook" "lossSum" "J"] ++ wsX40 ++ wsX20)
def wsX4_made : List Cond := .code yX4_made cX4_made 2 (some .char) :: ([.classLink RX4 89 "java/lang/IndexOutOfBoundsException", .initialized "java/lang/IndexOutOfBoundsException", .fieldLink RX4 48 "PaperMachine" "hourBook" "LPaperMachine$HourBook;", .fieldLink RX4 222 "PaperMachine$HourBook" "kinds" "[C", .methodLink RX4 219 yX2_has, .instanceMethod yX2_has, .selects RX2 yX2_has yX2_has, .initialized RX2, .code yX2_has cX2_has 2 (some .boolean), .fieldLink RX2 25 "PaperMachine$HourBook" "count" "I"] ++ wsX40 ++ wsX20 ++ (vx_atS RX4 93 "java/lang/IndexOutOfBoundsException" ["java/lang/RuntimeException", "java/lang/Exception"]).filter goodWord ++ (vx_atM "java/lang/ArrayIndexOutOfBoundsException" ["java/lang/IndexOutOfBoundsException", "java/lang/RuntimeException", "java/lang/Exception"]).filter goodWord)
def wsX4_steamCost : List Cond := .code yX4_steamCost cX4_steamCost 1 (some .long) :: ([.fieldLink RX4 226 "PaperMachine" "steamSum" "J"] ++ wsX40)
def wsX4_paperShare : List Cond := .code yX4_paperShare cX4_paperShare 1 (some .float) :: ([.classLink RX4 232 "java/lang/ArithmeticException", .initialized "java/lang/ArithmeticException", .fieldLink RX4 48 "PaperMachine" "hourBook" "LPaperMachine$HourBook;", .fieldLink RX4 229 "PaperMachine$HourBook" "massSum" "J", .fieldLink RX4 213 "PaperMachine$HourBook" "paperSum" "J"] ++ wsX40 ++ wsX20 ++ (vx_atS RX4 236 "java/lang/ArithmeticException" ["java/lang/RuntimeException", "java/lang/Exception"]).filter goodWord)
def wsX4_meanTrim : List Cond := .code yX4_meanTrim cX4_meanTrim 1 (some .double) :: ([.classLink RX4 232 "java/lang/ArithmeticException", .initialized "java/lang/ArithmeticException", .fieldLink RX4 48 "PaperMachine" "hourBook" "LPaperMachine$HourBook;", .fieldLink RX4 237 "PaperMachine$HourBook" "paperHours" "I", .fieldLink RX4 242 "PaperMachine$HourBook" "trimSum" "J"] ++ wsX40 ++ wsX20 ++ (vx_atS RX4 236 "java/lang/ArithmeticException" ["java/lang/RuntimeException", "java/lang/Exception"]).filter goodWord)
def wsX5_init : List Cond := .code yX5_init cX5_init 1 none :: ([.methodLink RX5 1 objectInit, .instanceMethod objectInit, .code objectInit ⟨#[0xb1]⟩ 1 none, .arrayClass .int, .fieldLink RX5 9 "PaperMachineModel" "weight" "[I", .fieldLink RX5 13 "PaperMachineModel" "width" "I", .fieldLink RX5 17 "PaperMachineModel" "grade" "I", .fieldLink RX5 20 "PaperMachineModel" "isUp" "Z", .fieldLink RX5 24 "PaperMachineModel" "orderGrade" "[I", .fieldLink RX5 27 "PaperMachineModel" "orderWidth" "[I", .fieldLink RX5 30 "PaperMachineModel" "lacks" "[I", .fieldLink RX5 33 "PaperMachineModel" "cut" "[I", .fieldLink RX5 36 "PaperMachineModel" "share" "I", .fieldLink RX5 39 "PaperMachineModel" "limit" "I", .fieldLink RX5 42 "PaperMachineModel" "firstPrice" "I", .fieldLink RX5 45 "PaperMachineModel" "secondPrice" "I", .arrayClass .char, .fieldLink RX5 48 "PaperMachineModel" "made" "[C", .fieldLink RX5 52 "PaperMachineModel" "trial" "[I", .fieldLink RX5 55 "PaperMachineModel" "inCut" "[I"] ++ wsX50)
def wsX5_thrown : List Cond := .code yX5_thrown cX5_thrown 1 (some .int) :: ([.fieldLink RX5 58 "PaperMachineModel" "thrown" "I"] ++ wsX50)
def wsX5_in : List Cond := .code yX5_in cX5_in 3 (some .boolean) :: ([])
def wsX5_goesOn : List Cond := .code yX5_goesOn cX5_goesOn 2 (some .boolean) :: ([.fieldLink RX5 58 "PaperMachineModel" "thrown" "I"] ++ wsX50)
def wsX5_isGrade : List Cond := .code yX5_isGrade cX5_isGrade 2 (some .boolean) :: ([.fieldLink RX5 61 "PaperMachineModel" "grades" "I", .methodLink RX5 64 yX5_in, .static yX5_in, .initialized RX5, .code yX5_in cX5_in 3 (some .boolean)] ++ wsX50)
def wsX5_isOrder : List Cond := .code yX5_isOrder cX5_isOrder 2 (some .boolean) :: ([.fieldLink RX5 68 "PaperMachineModel" "orders" "I", .methodLink RX5 64 yX5_in, .static yX5_in, .initialized RX5, .code yX5_in cX5_in 3 (some .boolean)] ++ wsX50)
def wsX5_hasWeight : List Cond := .code yX5_hasWeight cX5_hasWeight 4 (some .boolean) :: ([.fieldLink RX5 61 "PaperMachineModel" "grades" "I", .fieldLink RX5 9 "PaperMachineModel" "weight" "[I"] ++ wsX50 ++ (vx_atM "java/lang/ArrayIndexOutOfBoundsException" ["java/lang/IndexOutOfBoundsException", "java/lang/RuntimeException", "java/lang/Exception"]).filter goodWord)
def wsX5_addGrade : List Cond := .code yX5_addGrade cX5_addGrade 2 (some .int) :: ([.fieldLink RX5 61 "PaperMachineModel" "grades" "I", .fieldLink RX5 9 "PaperMachineModel" "weight" "[I", .methodLink RX5 64 yX5_in, .static yX5_in, .initialized RX5, .code yX5_in cX5_in 3 (some .boolean), .methodLink RX5 71 yX5_hasWeight, .instanceMethod yX5_hasWeight, .selects RX5 yX5_hasWeight yX5_hasWeight, .code yX5_hasWeight cX5_hasWeight 4 (some .boolean), .methodLink RX5 75 yX5_goesOn, .instanceMethod yX5_goesOn, .selects RX5 yX5_goesOn yX5_goesOn, .code yX5_goesOn cX5_goesOn 2 (some .boolean), .fieldLink RX5 58 "PaperMachineModel" "thrown" "I"] ++ wsX50 ++ (vx_atM "java/lang/ArrayIndexOutOfBoundsException" ["java/lang/IndexOutOfBoundsException", "java/lang/RuntimeException", "java/lang/Exception"]).filter goodWord)
def wsX5_setWidth : List Cond := .code yX5_setWidth cX5_setWidth 4 (some .int) :: ([.fieldLink RX5 68 "PaperMachineModel" "orders" "I", .fieldLink RX5 30 "PaperMachineModel" "lacks" "[I", .fieldLink RX5 27 "PaperMachineModel" "orderWidth" "[I", .fieldLink RX5 13 "PaperMachineModel" "width" "I", .methodLink RX5 64 yX5_in, .static yX5_in, .initialized RX5, .code yX5_in cX5_in 3 (some .boolean), .methodLink RX5 75 yX5_goesOn, .instanceMethod yX5_goesOn, .selects RX5 yX5_goesOn yX5_goesOn, .code yX5_goesOn cX5_goesOn 2 (some .boolean), .fieldLink RX5 58 "PaperMachineModel" "thrown" "I"] ++ wsX50 ++ (vx_atM "java/lang/ArrayIndexOutOfBoundsException" ["java/lang/IndexOutOfBoundsException", "java/lang/RuntimeException", "java/lang/Exception"]).filter goodWord)
def wsX5_change : List Cond := .code yX5_change cX5_change 3 (some .int) :: ([.fieldLink RX5 17 "PaperMachineModel" "grade" "I", .fieldLink RX5 81 "PaperMachineModel" "changing" "I", .fieldLink RX5 9 "PaperMachineModel" "weight" "[I", .fieldLink RX5 20 "PaperMachineModel" "isUp" "Z", .methodLink RX5 78 yX5_isGrade, .instanceMethod yX5_isGrade, .selects RX5 yX5_isGrade yX5_isGrade, .initialized RX5, .code yX5_isGrade cX5_isGrade 2 (some .boolean), .fieldLink RX5 61 "PaperMachineModel" "grades" "I", .methodLink RX5 64 yX5_in, .static yX5_in, .code yX5_in cX5_in 3 (some .boolean), .methodLink RX5 75 yX5_goesOn, .instanceMethod yX5_goesOn, .selects RX5 yX5_goesOn yX5_goesOn, .code yX5_goesOn cX5_goesOn 2 (some .boolean), .fieldLink RX5 58 "PaperMachineModel" "thrown" "I"] ++ wsX50 ++ (vx_atM "java/lang/ArrayIndexOutOfBoundsException" ["java/lang/IndexOutOfBoundsException", "java/lang/RuntimeException", "java/lang/Exception"]).filter goodWord)
def wsX5_grade : List Cond := .code yX5_grade cX5_grade 1 (some .int) :: ([.fieldLink RX5 17 "PaperMachineModel" "grade" "I", .methodLink RX5 75 yX5_goesOn, .instanceMethod yX5_goesOn, .selects RX5 yX5_goesOn yX5_goesOn, .initialized RX5, .code yX5_goesOn cX5_goesOn 2 (some .boolean), .fieldLink RX5 58 "PaperMachineModel" "thrown" "I"] ++ wsX50)
def wsX5_changing : List Cond := .code yX5_changing cX5_changing 1 (some .int) :: ([.fieldLink RX5 58 "PaperMachineModel" "thrown" "I", .fieldLink RX5 81 "PaperMachineModel" "changing" "I"] ++ wsX50)
def wsX5_hasOrders : List Cond := .code yX5_hasOrders cX5_hasOrders 4 (some .boolean) :: ([.fieldLink RX5 68 "PaperMachineModel" "orders" "I", .fieldLink RX5 24 "PaperMachineModel" "orderGrade" "[I", .fieldLink RX5 30 "PaperMachineModel" "lacks" "[I"] ++ wsX50 ++ (vx_atM "java/lang/ArrayIndexOutOfBoundsException" ["java/lang/IndexOutOfBoundsException", "java/lang/RuntimeException", "java/lang/Exception"]).filter goodWord)
def wsX5_nextFrom : List Cond := .code yX5_nextFrom cX5_nextFrom 7 (some .int) :: ([.fieldLink RX5 61 "PaperMachineModel" "grades" "I", .fieldLink RX5 9 "PaperMachineModel" "weight" "[I", .methodLink RX5 84 yX5_hasOrders, .instanceMethod yX5_hasOrders, .selects RX5 yX5_hasOrders yX5_hasOrders, .initialized RX5, .code yX5_hasOrders cX5_hasOrders 4 (some .boolean), .fieldLink RX5 68 "PaperMachineModel" "orders" "I", .fieldLink RX5 24 "PaperMachineModel" "orderGrade" "[I", .fieldLink RX5 30 "PaperMachineModel" "lacks" "[I"] ++ wsX50 ++ (vx_atM "java/lang/ArrayIndexOutOfBoundsException" ["java/lang/IndexOutOfBoundsException", "java/lang/RuntimeException", "java/lang/Exception"]).filter goodWord)
def wsX5_next : List Cond := .code yX5_next cX5_next 2 (some .int) :: ([.fieldLink RX5 17 "PaperMachineModel" "grade" "I", .fieldLink RX5 9 "PaperMachineModel" "weight" "[I", .fieldLink RX5 20 "PaperMachineModel" "isUp" "Z", .methodLink RX5 87 yX5_nextFrom, .instanceMethod yX5_nextFrom, .selects RX5 yX5_nextFrom yX5_nextFrom, .initialized RX5, .code yX5_nextFrom cX5_nextFrom 7 (some .int), .fieldLink RX5 61 "PaperMachineModel" "grades" "I", .methodLink RX5 84 yX5_hasOrders, .instanceMethod yX5_hasOrders, .selects RX5 yX5_hasOrders yX5_hasOrders, .code yX5_hasOrders cX5_hasOrders 4 (some .boolean), .fieldLink RX5 68 "PaperMachineModel" "orders" "I", .fieldLink RX5 24 "PaperMachineModel" "orderGrade" "[I", .fieldLink RX5 30 "PaperMachineModel" "lacks" "[I", .methodLink RX5 75 yX5_goesOn, .instanceMethod yX5_goesOn, .selects RX5 yX5_goesOn yX5_goesOn, .code yX5_goesOn cX5_goesOn 2 (some .boolean), .fieldLink RX5 58 "PaperMachineModel" "thrown" "I"] ++ wsX50 ++ (vx_atM "java/lang/ArrayIndexOutOfBoundsException" ["java/lang/IndexOutOfBoundsException", "java/lang/RuntimeException", "java/lang/Exception"]).filter goodWord)
def wsX5_massOf : List Cond := .code yX5_massOf cX5_massOf 2 (some .int) :: ([.fieldLink RX5 9 "PaperMachineModel" "weight" "[I", .fieldLink RX5 13 "PaperMachineModel" "width" "I"] ++ wsX50 ++ (vx_atM "java/lang/ArrayIndexOutOfBoundsException" ["java/lang/IndexOutOfBoundsException", "java/lang/RuntimeException", "java/lang/Exception"]).filter goodWord)
def wsX5_mass : List Cond := .code yX5_mass cX5_mass 2 (some .int) :: ([.methodLink RX5 78 yX5_isGrade, .instanceMethod yX5_isGrade, .selects RX5 yX5_isGrade yX5_isGrade, .initialized RX5, .code yX5_isGrade cX5_isGrade 2 (some .boolean), .fieldLink RX5 61 "PaperMachineModel" "grades" "I", .methodLink RX5 64 yX5_in, .static yX5_in, .code yX5_in cX5_in 3 (some .boolean), .methodLink RX5 75 yX5_goesOn, .instanceMethod yX5_goesOn, .selects RX5 yX5_goesOn yX5_goesOn, .code yX5_goesOn cX5_goesOn 2 (some .boolean), .fieldLink RX5 58 "PaperMachineModel" "thrown" "I", .methodLink RX5 91 yX5_massOf, .instanceMethod yX5_massOf, .selects RX5 yX5_massOf yX5_massOf, .code yX5_massOf cX5_massOf 2 (some .int), .fieldLink RX5 9 "PaperMachineModel" "weight" "[I", .fieldLink RX5 13 "PaperMachineModel" "width" "I"] ++ wsX50 ++ (vx_atM "java/lang/ArrayIndexOutOfBoundsException" ["java/lang/IndexOutOfBoundsException", "java/lang/RuntimeException", "java/lang/Exception"]).filter goodWord)
def wsX5_order : List Cond := .code yX5_order cX5_order 5 (some .int) :: ([.fieldLink RX5 13 "PaperMachineModel" "width" "I", .fieldLink RX5 68 "PaperMachineModel" "orders" "I", .fieldLink RX5 24 "PaperMachineModel" "orderGrade" "[I", .fieldLink RX5 27 "PaperMachineModel" "orderWidth" "[I", .fieldLink RX5 30 "PaperMachineModel" "lacks" "[I", .methodLink RX5 78 yX5_isGrade, .instanceMethod yX5_isGrade, .selects RX5 yX5_isGrade yX5_isGrade, .initialized RX5, .code yX5_isGrade cX5_isGrade 2 (some .boolean), .fieldLink RX5 61 "PaperMachineModel" "grades" "I", .methodLink RX5 64 yX5_in, .static yX5_in, .code yX5_in cX5_in 3 (some .boolean), .methodLink RX5 75 yX5_goesOn, .instanceMethod yX5_goesOn, .selects RX5 yX5_goesOn yX5_goesOn, .code yX5_goesOn cX5_goesOn 2 (some .boolean), .fieldLink RX5 58 "PaperMachineModel" "thrown" "I"] ++ wsX50 ++ (vx_atM "java/lang/ArrayIndexOutOfBoundsException" ["java/lang/IndexOutOfBoundsException", "java/lang/RuntimeException", "java/lang/Exception"]).filter goodWord)
def wsX5_cancel : List Cond := .code yX5_cancel cX5_cancel 3 (some .int) :: ([.fieldLink RX5 30 "PaperMachineModel" "lacks" "[I", .methodLink RX5 95 yX5_isOrder, .instanceMethod yX5_isOrder, .selects RX5 yX5_isOrder yX5_isOrder, .initialized RX5, .code yX5_isOrder cX5_isOrder 2 (some .boolean), .fieldLink RX5 68 "PaperMachineModel" "orders" "I", .methodLink RX5 64 yX5_in, .static yX5_in, .code yX5_in cX5_in 3 (some .boolean), .methodLink RX5 75 yX5_goesOn, .instanceMethod yX5_goesOn, .selects RX5 yX5_goesOn yX5_goesOn, .code yX5_goesOn cX5_goesOn 2 (some .boolean), .fieldLink RX5 58 "PaperMachineModel" "thrown" "I"] ++ wsX50 ++ (vx_atM "java/lang/ArrayIndexOutOfBoundsException" ["java/lang/IndexOutOfBoundsException", "java/lang/RuntimeException", "java/lang/Exception"]).filter goodWord)
def wsX5_cut : List Cond := .code yX5_cut cX5_cut 2 (some .int) :: ([.fieldLink RX5 33 "PaperMachineModel" "cut" "[I", .methodLink RX5 95 yX5_isOrder, .instanceMethod yX5_isOrder, .selects RX5 yX5_isOrder yX5_isOrder, .initialized RX5, .code yX5_isOrder cX5_isOrder 2 (some .boolean), .fieldLink RX5 68 "PaperMachineModel" "orders" "I", .methodLink RX5 64 yX5_in, .static yX5_in, .code yX5_in cX5_in 3 (some .boolean), .methodLink RX5 75 yX5_goesOn, .instanceMethod yX5_goesOn, .selects RX5 yX5_goesOn yX5_goesOn, .code yX5_goesOn cX5_goesOn 2 (some .boolean), .fieldLink RX5 58 "PaperMachineModel" "thrown" "I"] ++ wsX50 ++ (vx_atM "java/lang/ArrayIndexOutOfBoundsException" ["java/lang/IndexOutOfBoundsException", "java/lang/RuntimeException", "java/lang/Exception"]).filter goodWord)
def wsX5_lacks : List Cond := .code yX5_lacks cX5_lacks 2 (some .int) :: ([.fieldLink RX5 30 "PaperMachineModel" "lacks" "[I", .methodLink RX5 95 yX5_isOrder, .instanceMethod yX5_isOrder, .selects RX5 yX5_isOrder yX5_isOrder, .initialized RX5, .code yX5_isOrder cX5_isOrder 2 (some .boolean), .fieldLink RX5 68 "PaperMachineModel" "orders" "I", .methodLink RX5 64 yX5_in, .static yX5_in, .code yX5_in cX5_in 3 (some .boolean), .methodLink RX5 75 yX5_goesOn, .instanceMethod yX5_goesOn, .selects RX5 yX5_goesOn yX5_goesOn, .code yX5_goesOn cX5_goesOn 2 (some .boolean), .fieldLink RX5 58 "PaperMachineModel" "thrown" "I"] ++ wsX50 ++ (vx_atM "java/lang/ArrayIndexOutOfBoundsException" ["java/lang/IndexOutOfBoundsException", "java/lang/RuntimeException", "java/lang/Exception"]).filter goodWord)
def wsX5_tries : List Cond := .code yX5_tries cX5_tries 7 none :: ([.fieldLink RX5 68 "PaperMachineModel" "orders" "I", .fieldLink RX5 98 "PaperMachineModel" "best" "I", .fieldLink RX5 55 "PaperMachineModel" "inCut" "[I", .fieldLink RX5 52 "PaperMachineModel" "trial" "[I", .fieldLink RX5 24 "PaperMachineModel" "orderGrade" "[I", .fieldLink RX5 30 "PaperMachineModel" "lacks" "[I", .fieldLink RX5 13 "PaperMachineModel" "width" "I", .fieldLink RX5 27 "PaperMachineModel" "orderWidth" "[I", .methodLink RX5 101 yX5_tries, .instanceMethod yX5_tries, .selects RX5 yX5_tries yX5_tries, .initialized RX5] ++ wsX50 ++ (vx_atM "java/lang/ArrayIndexOutOfBoundsException" ["java/lang/IndexOutOfBoundsException", "java/lang/RuntimeException", "java/lang/Exception"]).filter goodWord ++ (vx_atM "java/lang/ArithmeticException" ["java/lang/RuntimeException", "java/lang/Exception"]).filter goodWord)
def wsX5_looks : List Cond := .code yX5_looks cX5_looks 2 (some .int) :: ([.fieldLink RX5 98 "PaperMachineModel" "best" "I", .methodLink RX5 101 yX5_tries, .instanceMethod yX5_tries, .selects RX5 yX5_tries yX5_tries, .initialized RX5, .code yX5_tries cX5_tries 7 none, .fieldLink RX5 68 "PaperMachineModel" "orders" "I", .fieldLink RX5 55 "PaperMachineModel" "inCut" "[I", .fieldLink RX5 52 "PaperMachineModel" "trial" "[I", .fieldLink RX5 24 "PaperMachineModel" "orderGrade" "[I", .fieldLink RX5 30 "PaperMachineModel" "lacks" "[I", .fieldLink RX5 13 "PaperMachineModel" "width" "I", .fieldLink RX5 27 "PaperMachineModel" "orderWidth" "[I"] ++ wsX50 ++ (vx_atM "java/lang/ArrayIndexOutOfBoundsException" ["java/lang/IndexOutOfBoundsException", "java/lang/RuntimeException", "java/lang/Exception"]).filter goodWord ++ (vx_atM "java/lang/ArithmeticException" ["java/lang/RuntimeException", "java/lang/Exception"]).filter goodWord)
def wsX5_trim_r1 : List Cond := [Cond.fieldLink RX5 13 "PaperMachineModel" "width" "I", Cond.methodLink RX5 78 yX5_isGrade, Cond.instanceMethod yX5_isGrade, Cond.selects RX5 yX5_isGrade yX5_isGrade, Cond.initialized RX5, Cond.code yX5_isGrade cX5_isGrade 2 (some .boolean), Cond.fieldLink RX5 61 "PaperMachineModel" "grades" "I", Cond.methodLink RX5 64 yX5_in, Cond.static yX5_in, Cond.code yX5_in cX5_in 3 (some .boolean), Cond.methodLink RX5 75 yX5_goesOn, Cond.instanceMethod yX5_goesOn, Cond.selects RX5 yX5_goesOn yX5_goesOn, Cond.code yX5_goesOn cX5_goesOn 2 (some .boolean), Cond.fieldLink RX5 58 "PaperMachineModel" "thrown" "I", Cond.methodLink RX5 105 yX5_looks, Cond.instanceMethod yX5_looks, Cond.selects RX5 yX5_looks yX5_looks, Cond.code yX5_looks cX5_looks 2 (some .int), Cond.fieldLink RX5 98 "PaperMachineModel" "best" "I", Cond.methodLink RX5 101 yX5_tries, Cond.instanceMethod yX5_tries, Cond.selects RX5 yX5_tries yX5_tries, Cond.code yX5_tries cX5_tries 7 none]
def wsX5_trim_r2 : List Cond := [Cond.fieldLink RX5 68 "PaperMachineModel" "orders" "I", Cond.fieldLink RX5 55 "PaperMachineModel" "inCut" "[I", Cond.fieldLink RX5 52 "PaperMachineModel" "trial" "[I", Cond.fieldLink RX5 24 "PaperMachineModel" "orderGrade" "[I", Cond.fieldLink RX5 30 "PaperMachineModel" "lacks" "[I", Cond.fieldLink RX5 27 "PaperMachineModel" "orderWidth" "[I"]
def wsX5_trim : List Cond := .code yX5_trim cX5_trim 2 (some .int) :: ((wsX5_trim_r1 ++ wsX5_trim_r2) ++ wsX50 ++ (vx_atM "java/lang/ArrayIndexOutOfBoundsException" ["java/lang/IndexOutOfBoundsException", "java/lang/RuntimeException", "java/lang/Exception"]).filter goodWord ++ (vx_atM "java/lang/ArithmeticException" ["java/lang/RuntimeException", "java/lang/Exception"]).filter goodWord)
def wsX5_trimByTable_r1 : List Cond := [Cond.methodLink RX5 108 yX5_trim, Cond.instanceMethod yX5_trim, Cond.selects RX5 yX5_trim yX5_trim, Cond.initialized RX5, Cond.code yX5_trim cX5_trim 2 (some .int), Cond.fieldLink RX5 13 "PaperMachineModel" "width" "I", Cond.methodLink RX5 78 yX5_isGrade, Cond.instanceMethod yX5_isGrade, Cond.selects RX5 yX5_isGrade yX5_isGrade, Cond.code yX5_isGrade cX5_isGrade 2 (some .boolean), Cond.fieldLink RX5 61 "PaperMachineModel" "grades" "I", Cond.methodLink RX5 64 yX5_in, Cond.static yX5_in, Cond.code yX5_in cX5_in 3 (some .boolean), Cond.methodLink RX5 75 yX5_goesOn, Cond.instanceMethod yX5_goesOn, Cond.selects RX5 yX5_goesOn yX5_goesOn, Cond.code yX5_goesOn cX5_goesOn 2 (some .boolean), Cond.fieldLink RX5 58 "PaperMachineModel" "thrown" "I", Cond.methodLink RX5 105 yX5_looks, Cond.instanceMethod yX5_looks, Cond.selects RX5 yX5_looks yX5_looks, Cond.code yX5_looks cX5_looks 2 (some .int), Cond.fieldLink RX5 98 "PaperMachineModel" "best" "I"]
def wsX5_trimByTable_r2 : List Cond := [Cond.methodLink RX5 101 yX5_tries, Cond.instanceMethod yX5_tries, Cond.selects RX5 yX5_tries yX5_tries, Cond.code yX5_tries cX5_tries 7 none, Cond.fieldLink RX5 68 "PaperMachineModel" "orders" "I", Cond.fieldLink RX5 55 "PaperMachineModel" "inCut" "[I", Cond.fieldLink RX5 52 "PaperMachineModel" "trial" "[I", Cond.fieldLink RX5 24 "PaperMachineModel" "orderGrade" "[I", Cond.fieldLink RX5 30 "PaperMachineModel" "lacks" "[I", Cond.fieldLink RX5 27 "PaperMachineModel" "orderWidth" "[I"]
def wsX5_trimByTable : List Cond := .code yX5_trimByTable cX5_trimByTable 2 (some .int) :: ((wsX5_trimByTable_r1 ++ wsX5_trimByTable_r2) ++ wsX50 ++ (vx_atM "java/lang/ArrayIndexOutOfBoundsException" ["java/lang/IndexOutOfBoundsException", "java/lang/RuntimeException", "java/lang/Exception"]).filter goodWord ++ (vx_atM "java/lang/ArithmeticException" ["java/lang/RuntimeException", "java/lang/Exception"]).filter goodWord)
def wsX5_inCut_r1 : List Cond := [Cond.fieldLink RX5 24 "PaperMachineModel" "orderGrade" "[I", Cond.fieldLink RX5 55 "PaperMachineModel" "inCut" "[I", Cond.methodLink RX5 95 yX5_isOrder, Cond.instanceMethod yX5_isOrder, Cond.selects RX5 yX5_isOrder yX5_isOrder, Cond.initialized RX5, Cond.code yX5_isOrder cX5_isOrder 2 (some .boolean), Cond.fieldLink RX5 68 "PaperMachineModel" "orders" "I", Cond.methodLink RX5 64 yX5_in, Cond.static yX5_in, Cond.code yX5_in cX5_in 3 (some .boolean), Cond.methodLink RX5 75 yX5_goesOn, Cond.instanceMethod yX5_goesOn, Cond.selects RX5 yX5_goesOn yX5_goesOn, Cond.code yX5_goesOn cX5_goesOn 2 (some .boolean), Cond.fieldLink RX5 58 "PaperMachineModel" "thrown" "I", Cond.methodLink RX5 105 yX5_looks, Cond.instanceMethod yX5_looks, Cond.selects RX5 yX5_looks yX5_looks, Cond.code yX5_looks cX5_looks 2 (some .int), Cond.fieldLink RX5 98 "PaperMachineModel" "best" "I", Cond.methodLink RX5 101 yX5_tries, Cond.instanceMethod yX5_tries, Cond.selects RX5 yX5_tries yX5_tries]
def wsX5_inCut_r2 : List Cond := [Cond.code yX5_tries cX5_tries 7 none, Cond.fieldLink RX5 52 "PaperMachineModel" "trial" "[I", Cond.fieldLink RX5 30 "PaperMachineModel" "lacks" "[I", Cond.fieldLink RX5 13 "PaperMachineModel" "width" "I", Cond.fieldLink RX5 27 "PaperMachineModel" "orderWidth" "[I"]
def wsX5_inCut : List Cond := .code yX5_inCut cX5_inCut 3 (some .int) :: ((wsX5_inCut_r1 ++ wsX5_inCut_r2) ++ wsX50 ++ (vx_atM "java/lang/ArrayIndexOutOfBoundsException" ["java/lang/IndexOutOfBoundsException", "java/lang/RuntimeException", "java/lang/Exception"]).filter goodWord ++ (vx_atM "java/lang/ArithmeticException" ["java/lang/RuntimeException", "java/lang/Exception"]).filter goodWord)
def wsX5_leastHours : List Cond := .code yX5_leastHours cX5_leastHours 6 (some .int) :: ([.fieldLink RX5 68 "PaperMachineModel" "orders" "I", .fieldLink RX5 24 "PaperMachineModel" "orderGrade" "[I", .fieldLink RX5 30 "PaperMachineModel" "lacks" "[I", .fieldLink RX5 27 "PaperMachineModel" "orderWidth" "[I", .fieldLink RX5 13 "PaperMachineModel" "width" "I", .methodLink RX5 78 yX5_isGrade, .instanceMethod yX5_isGrade, .selects RX5 yX5_isGrade yX5_isGrade, .initialized RX5, .code yX5_isGrade cX5_isGrade 2 (some .boolean), .fieldLink RX5 61 "PaperMachineModel" "grades" "I", .methodLink RX5 64 yX5_in, .static yX5_in, .code yX5_in cX5_in 3 (some .boolean), .methodLink RX5 75 yX5_goesOn, .instanceMethod yX5_goesOn, .selects RX5 yX5_goesOn yX5_goesOn, .code yX5_goesOn cX5_goesOn 2 (some .boolean), .fieldLink RX5 58 "PaperMachineModel" "thrown" "I"] ++ wsX50 ++ (vx_atM "java/lang/ArrayIndexOutOfBoundsException" ["java/lang/IndexOutOfBoundsException", "java/lang/RuntimeException", "java/lang/Exception"]).filter goodWord ++ (vx_atM "java/lang/ArithmeticException" ["java/lang/RuntimeException", "java/lang/Exception"]).filter goodWord)
def wsX5_setShare : List Cond := .code yX5_setShare cX5_setShare 3 (some .int) :: ([.fieldLink RX5 36 "PaperMachineModel" "share" "I", .methodLink RX5 64 yX5_in, .static yX5_in, .initialized RX5, .code yX5_in cX5_in 3 (some .boolean), .methodLink RX5 75 yX5_goesOn, .instanceMethod yX5_goesOn, .selects RX5 yX5_goesOn yX5_goesOn, .code yX5_goesOn cX5_goesOn 2 (some .boolean), .fieldLink RX5 58 "PaperMachineModel" "thrown" "I"] ++ wsX50)
def wsX5_setContract : List Cond := .code yX5_setContract cX5_setContract 5 (some .int) :: ([.fieldLink RX5 39 "PaperMachineModel" "limit" "I", .fieldLink RX5 42 "PaperMachineModel" "firstPrice" "I", .fieldLink RX5 45 "PaperMachineModel" "secondPrice" "I", .methodLink RX5 64 yX5_in, .static yX5_in, .initialized RX5, .code yX5_in cX5_in 3 (some .boolean), .methodLink RX5 75 yX5_goesOn, .instanceMethod yX5_goesOn, .selects RX5 yX5_goesOn yX5_goesOn, .code yX5_goesOn cX5_goesOn 2 (some .boolean), .fieldLink RX5 58 "PaperMachineModel" "thrown" "I"] ++ wsX50)
def wsX5_makes : List Cond := .code yX5_makes cX5_makes 7 none :: ([.fieldLink RX5 36 "PaperMachineModel" "share" "I", .fieldLink RX5 111 "PaperMachineModel" "broke" "I", .fieldLink RX5 114 "PaperMachineModel" "fresh" "J", .fieldLink RX5 118 "PaperMachineModel" "paper" "J", .fieldLink RX5 121 "PaperMachineModel" "lost" "J", .fieldLink RX5 124 "PaperMachineModel" "mass" "J", .fieldLink RX5 39 "PaperMachineModel" "limit" "I", .fieldLink RX5 127 "PaperMachineModel" "steam" "J", .fieldLink RX5 42 "PaperMachineModel" "firstPrice" "I", .fieldLink RX5 45 "PaperMachineModel" "secondPrice" "I"] ++ wsX50)
def wsX5_cuts_r1 : List Cond := [Cond.fieldLink RX5 17 "PaperMachineModel" "grade" "I", Cond.fieldLink RX5 48 "PaperMachineModel" "made" "[C", Cond.fieldLink RX5 130 "PaperMachineModel" "hours" "I", Cond.fieldLink RX5 68 "PaperMachineModel" "orders" "I", Cond.fieldLink RX5 30 "PaperMachineModel" "lacks" "[I", Cond.fieldLink RX5 55 "PaperMachineModel" "inCut" "[I", Cond.fieldLink RX5 33 "PaperMachineModel" "cut" "[I", Cond.fieldLink RX5 133 "PaperMachineModel" "paperHours" "I", Cond.fieldLink RX5 136 "PaperMachineModel" "trims" "I", Cond.fieldLink RX5 13 "PaperMachineModel" "width" "I", Cond.methodLink RX5 105 yX5_looks, Cond.instanceMethod yX5_looks, Cond.selects RX5 yX5_looks yX5_looks, Cond.initialized RX5, Cond.code yX5_looks cX5_looks 2 (some .int), Cond.fieldLink RX5 98 "PaperMachineModel" "best" "I", Cond.methodLink RX5 101 yX5_tries, Cond.instanceMethod yX5_tries, Cond.selects RX5 yX5_tries yX5_tries, Cond.code yX5_tries cX5_tries 7 none, Cond.fieldLink RX5 52 "PaperMachineModel" "trial" "[I", Cond.fieldLink RX5 24 "PaperMachineModel" "orderGrade" "[I", Cond.fieldLink RX5 27 "PaperMachineModel" "orderWidth" "[I", Cond.methodLink RX5 91 yX5_massOf]
def wsX5_cuts_r2 : List Cond := [Cond.instanceMethod yX5_massOf, Cond.selects RX5 yX5_massOf yX5_massOf, Cond.code yX5_massOf cX5_massOf 2 (some .int), Cond.fieldLink RX5 9 "PaperMachineModel" "weight" "[I", Cond.methodLink RX5 139 yX5_makes, Cond.instanceMethod yX5_makes, Cond.selects RX5 yX5_makes yX5_makes, Cond.code yX5_makes cX5_makes 7 none, Cond.fieldLink RX5 36 "PaperMachineModel" "share" "I", Cond.fieldLink RX5 111 "PaperMachineModel" "broke" "I", Cond.fieldLink RX5 114 "PaperMachineModel" "fresh" "J", Cond.fieldLink RX5 118 "PaperMachineModel" "paper" "J", Cond.fieldLink RX5 121 "PaperMachineModel" "lost" "J", Cond.fieldLink RX5 124 "PaperMachineModel" "mass" "J", Cond.fieldLink RX5 39 "PaperMachineModel" "limit" "I", Cond.fieldLink RX5 127 "PaperMachineModel" "steam" "J", Cond.fieldLink RX5 42 "PaperMachineModel" "firstPrice" "I", Cond.fieldLink RX5 45 "PaperMachineModel" "secondPrice" "I"]
def wsX5_cuts : List Cond := .code yX5_cuts cX5_cuts 4 (some .int) :: ((wsX5_cuts_r1 ++ wsX5_cuts_r2) ++ wsX50 ++ (vx_atM "java/lang/ArrayIndexOutOfBoundsException" ["java/lang/IndexOutOfBoundsException", "java/lang/RuntimeException", "java/lang/Exception"]).filter goodWord ++ (vx_atM "java/lang/ArithmeticException" ["java/lang/RuntimeException", "java/lang/Exception"]).filter goodWord)
def wsX5_passesOne_r1 : List Cond := [Cond.fieldLink RX5 17 "PaperMachineModel" "grade" "I", Cond.fieldLink RX5 48 "PaperMachineModel" "made" "[C", Cond.fieldLink RX5 130 "PaperMachineModel" "hours" "I", Cond.fieldLink RX5 81 "PaperMachineModel" "changing" "I", Cond.methodLink RX5 91 yX5_massOf, Cond.instanceMethod yX5_massOf, Cond.selects RX5 yX5_massOf yX5_massOf, Cond.initialized RX5, Cond.code yX5_massOf cX5_massOf 2 (some .int), Cond.fieldLink RX5 9 "PaperMachineModel" "weight" "[I", Cond.fieldLink RX5 13 "PaperMachineModel" "width" "I", Cond.methodLink RX5 139 yX5_makes, Cond.instanceMethod yX5_makes, Cond.selects RX5 yX5_makes yX5_makes, Cond.code yX5_makes cX5_makes 7 none, Cond.fieldLink RX5 36 "PaperMachineModel" "share" "I", Cond.fieldLink RX5 111 "PaperMachineModel" "broke" "I", Cond.fieldLink RX5 114 "PaperMachineModel" "fresh" "J", Cond.fieldLink RX5 118 "PaperMachineModel" "paper" "J", Cond.fieldLink RX5 121 "PaperMachineModel" "lost" "J", Cond.fieldLink RX5 124 "PaperMachineModel" "mass" "J", Cond.fieldLink RX5 39 "PaperMachineModel" "limit" "I", Cond.fieldLink RX5 127 "PaperMachineModel" "steam" "J", Cond.fieldLink RX5 42 "PaperMachineModel" "firstPrice" "I"]
def wsX5_passesOne_r2 : List Cond := [Cond.fieldLink RX5 45 "PaperMachineModel" "secondPrice" "I", Cond.methodLink RX5 143 yX5_cuts, Cond.instanceMethod yX5_cuts, Cond.selects RX5 yX5_cuts yX5_cuts, Cond.code yX5_cuts cX5_cuts 4 (some .int), Cond.fieldLink RX5 68 "PaperMachineModel" "orders" "I", Cond.fieldLink RX5 30 "PaperMachineModel" "lacks" "[I", Cond.fieldLink RX5 55 "PaperMachineModel" "inCut" "[I", Cond.fieldLink RX5 33 "PaperMachineModel" "cut" "[I", Cond.fieldLink RX5 133 "PaperMachineModel" "paperHours" "I", Cond.fieldLink RX5 136 "PaperMachineModel" "trims" "I", Cond.methodLink RX5 105 yX5_looks, Cond.instanceMethod yX5_looks, Cond.selects RX5 yX5_looks yX5_looks, Cond.code yX5_looks cX5_looks 2 (some .int), Cond.fieldLink RX5 98 "PaperMachineModel" "best" "I", Cond.methodLink RX5 101 yX5_tries, Cond.instanceMethod yX5_tries, Cond.selects RX5 yX5_tries yX5_tries, Cond.code yX5_tries cX5_tries 7 none, Cond.fieldLink RX5 52 "PaperMachineModel" "trial" "[I", Cond.fieldLink RX5 24 "PaperMachineModel" "orderGrade" "[I", Cond.fieldLink RX5 27 "PaperMachineModel" "orderWidth" "[I"]
def wsX5_passesOne : List Cond := .code yX5_passesOne cX5_passesOne 2 (some .int) :: ((wsX5_passesOne_r1 ++ wsX5_passesOne_r2) ++ wsX50 ++ (vx_atM "java/lang/ArrayIndexOutOfBoundsException" ["java/lang/IndexOutOfBoundsException", "java/lang/RuntimeException", "java/lang/Exception"]).filter goodWord ++ (vx_atM "java/lang/ArithmeticException" ["java/lang/RuntimeException", "java/lang/Exception"]).filter goodWord)
def wsX5_pass_r1 : List Cond := [Cond.fieldLink RX5 130 "PaperMachineModel" "hours" "I", Cond.methodLink RX5 64 yX5_in, Cond.static yX5_in, Cond.initialized RX5, Cond.code yX5_in cX5_in 3 (some .boolean), Cond.methodLink RX5 75 yX5_goesOn, Cond.instanceMethod yX5_goesOn, Cond.selects RX5 yX5_goesOn yX5_goesOn, Cond.code yX5_goesOn cX5_goesOn 2 (some .boolean), Cond.fieldLink RX5 58 "PaperMachineModel" "thrown" "I", Cond.methodLink RX5 147 yX5_passesOne, Cond.instanceMethod yX5_passesOne, Cond.selects RX5 yX5_passesOne yX5_passesOne, Cond.code yX5_passesOne cX5_passesOne 2 (some .int), Cond.fieldLink RX5 17 "PaperMachineModel" "grade" "I", Cond.fieldLink RX5 48 "PaperMachineModel" "made" "[C", Cond.fieldLink RX5 81 "PaperMachineModel" "changing" "I", Cond.methodLink RX5 91 yX5_massOf, Cond.instanceMethod yX5_massOf, Cond.selects RX5 yX5_massOf yX5_massOf, Cond.code yX5_massOf cX5_massOf 2 (some .int), Cond.fieldLink RX5 9 "PaperMachineModel" "weight" "[I", Cond.fieldLink RX5 13 "PaperMachineModel" "width" "I", Cond.methodLink RX5 139 yX5_makes]
def wsX5_pass_r2 : List Cond := [Cond.instanceMethod yX5_makes, Cond.selects RX5 yX5_makes yX5_makes, Cond.code yX5_makes cX5_makes 7 none, Cond.fieldLink RX5 36 "PaperMachineModel" "share" "I", Cond.fieldLink RX5 111 "PaperMachineModel" "broke" "I", Cond.fieldLink RX5 114 "PaperMachineModel" "fresh" "J", Cond.fieldLink RX5 118 "PaperMachineModel" "paper" "J", Cond.fieldLink RX5 121 "PaperMachineModel" "lost" "J", Cond.fieldLink RX5 124 "PaperMachineModel" "mass" "J", Cond.fieldLink RX5 39 "PaperMachineModel" "limit" "I", Cond.fieldLink RX5 127 "PaperMachineModel" "steam" "J", Cond.fieldLink RX5 42 "PaperMachineModel" "firstPrice" "I", Cond.fieldLink RX5 45 "PaperMachineModel" "secondPrice" "I", Cond.methodLink RX5 143 yX5_cuts, Cond.instanceMethod yX5_cuts, Cond.selects RX5 yX5_cuts yX5_cuts, Cond.code yX5_cuts cX5_cuts 4 (some .int), Cond.fieldLink RX5 68 "PaperMachineModel" "orders" "I", Cond.fieldLink RX5 30 "PaperMachineModel" "lacks" "[I", Cond.fieldLink RX5 55 "PaperMachineModel" "inCut" "[I", Cond.fieldLink RX5 33 "PaperMachineModel" "cut" "[I", Cond.fieldLink RX5 133 "PaperMachineModel" "paperHours" "I", Cond.fieldLink RX5 136 "PaperMachineModel" "trims" "I", Cond.methodLink RX5 105 yX5_looks]
def wsX5_pass_r3 : List Cond := [Cond.instanceMethod yX5_looks, Cond.selects RX5 yX5_looks yX5_looks, Cond.code yX5_looks cX5_looks 2 (some .int), Cond.fieldLink RX5 98 "PaperMachineModel" "best" "I", Cond.methodLink RX5 101 yX5_tries, Cond.instanceMethod yX5_tries, Cond.selects RX5 yX5_tries yX5_tries, Cond.code yX5_tries cX5_tries 7 none, Cond.fieldLink RX5 52 "PaperMachineModel" "trial" "[I", Cond.fieldLink RX5 24 "PaperMachineModel" "orderGrade" "[I", Cond.fieldLink RX5 27 "PaperMachineModel" "orderWidth" "[I"]
def wsX5_pass : List Cond := .code yX5_pass cX5_pass 4 (some .int) :: ((wsX5_pass_r1 ++ (wsX5_pass_r2 ++ wsX5_pass_r3)) ++ wsX50 ++ (vx_atM "java/lang/ArrayIndexOutOfBoundsException" ["java/lang/IndexOutOfBoundsException", "java/lang/RuntimeException", "java/lang/Exception"]).filter goodWord ++ (vx_atM "java/lang/ArithmeticException" ["java/lang/RuntimeException", "java/lang/Exception"]).filter goodWord)
def wsX5_hours : List Cond := .code yX5_hours cX5_hours 1 (some .int) :: ([.fieldLink RX5 58 "PaperMachineModel" "thrown" "I", .fieldLink RX5 130 "PaperMachineModel" "hours" "I"] ++ wsX50)
def wsX5_broke : List Cond := .code yX5_broke cX5_broke 1 (some .int) :: ([.fieldLink RX5 58 "PaperMachineModel" "thrown" "I", .fieldLink RX5 111 "PaperMachineModel" "broke" "I"] ++ wsX50)
def wsX5_brokeByHours : List Cond := .code yX5_brokeByHours cX5_brokeByHours 1 (some .int) :: ([.fieldLink RX5 58 "PaperMachineModel" "thrown" "I", .fieldLink RX5 111 "PaperMachineModel" "broke" "I"] ++ wsX50)
def wsX5_fresh : List Cond := .code yX5_fresh cX5_fresh 1 (some .long) :: ([.fieldLink RX5 58 "PaperMachineModel" "thrown" "I", .fieldLink RX5 114 "PaperMachineModel" "fresh" "J"] ++ wsX50)
def wsX5_paper : List Cond := .code yX5_paper cX5_paper 1 (some .long) :: ([.fieldLink RX5 58 "PaperMachineModel" "thrown" "I", .fieldLink RX5 118 "PaperMachineModel" "paper" "J"] ++ wsX50)
def wsX5_lost : List Cond := .code yX5_lost cX5_lost 1 (some .long) :: ([.fieldLink RX5 58 "PaperMachineModel" "thrown" "I", .fieldLink RX5 121 "PaperMachineModel" "lost" "J"] ++ wsX50)
def wsX5_made : List Cond := .code yX5_made cX5_made 2 (some .char) :: ([.fieldLink RX5 130 "PaperMachineModel" "hours" "I", .fieldLink RX5 48 "PaperMachineModel" "made" "[C", .methodLink RX5 64 yX5_in, .static yX5_in, .initialized RX5, .code yX5_in cX5_in 3 (some .boolean), .methodLink RX5 75 yX5_goesOn, .instanceMethod yX5_goesOn, .selects RX5 yX5_goesOn yX5_goesOn, .code yX5_goesOn cX5_goesOn 2 (some .boolean), .fieldLink RX5 58 "PaperMachineModel" "thrown" "I"] ++ wsX50 ++ (vx_atM "java/lang/ArrayIndexOutOfBoundsException" ["java/lang/IndexOutOfBoundsException", "java/lang/RuntimeException", "java/lang/Exception"]).filter goodWord)
def wsX5_steamCost : List Cond := .code yX5_steamCost cX5_steamCost 1 (some .long) :: ([.fieldLink RX5 58 "PaperMachineModel" "thrown" "I", .fieldLink RX5 127 "PaperMachineModel" "steam" "J"] ++ wsX50)
def wsX5_paperShare : List Cond := .code yX5_paperShare cX5_paperShare 1 (some .float) :: ([.fieldLink RX5 124 "PaperMachineModel" "mass" "J", .fieldLink RX5 118 "PaperMachineModel" "paper" "J", .methodLink RX5 75 yX5_goesOn, .instanceMethod yX5_goesOn, .selects RX5 yX5_goesOn yX5_goesOn, .initialized RX5, .code yX5_goesOn cX5_goesOn 2 (some .boolean), .fieldLink RX5 58 "PaperMachineModel" "thrown" "I"] ++ wsX50)
def wsX5_meanTrim : List Cond := .code yX5_meanTrim cX5_meanTrim 1 (some .double) :: ([.fieldLink RX5 133 "PaperMachineModel" "paperHours" "I", .fieldLink RX5 136 "PaperMachineModel" "trims" "I", .methodLink RX5 75 yX5_goesOn, .instanceMethod yX5_goesOn, .selects RX5 yX5_goesOn yX5_goesOn, .initialized RX5, .code yX5_goesOn cX5_goesOn 2 (some .boolean), .fieldLink RX5 58 "PaperMachineModel" "thrown" "I"] ++ wsX50)
def wsJx00060_init_a7421 : List Cond := .code yJx00060_init_a7421 cJx00060_init_a7421 2 none :: ([])
def wsJ9_abs_0f7a4 : List Cond := .code yJ9_abs_0f7a4 cJ9_abs_0f7a4 1 (some .int) :: ([])
def wsJ9_max_7cf53 : List Cond := .code yJ9_max_7cf53 cJ9_max_7cf53 2 (some .int) :: ([])
def wsJ9_min_7cf53 : List Cond := .code yJ9_min_7cf53 cJ9_min_7cf53 2 (some .int) :: ([])
def wsL_addGrade : List Cond := .codeWith yL_addGrade cL_addGrade 4 (some .int) [(0, 9, 12, 13), (0, 9, 15, 15)] :: ([.classLink RL 13 "java/lang/IllegalArgumentException", .classLink RL 15 "java/lang/IllegalStateException", .methodLink RL 7 yX4_addGrade, .instanceMethod yX4_addGrade, .selects RX4 yX4_addGrade yX4_addGrade, .initialized RX4, .code yX4_addGrade cX4_addGrade 3 (some .int), .classLink RX4 63 "java/lang/IllegalArgumentException", .initialized "java/lang/IllegalArgumentException", .classLink RX4 73 "java/lang/IllegalStateException", .initialized "java/lang/IllegalStateException", .fieldLink RX4 70 "PaperMachine" "gradeCount" "I", .fieldLink RX4 9 "PaperMachine" "weights" "[I", .methodLink RX4 55 yX4_isWithin, .static yX4_isWithin, .code yX4_isWithin cX4_isWithin 3 (some .boolean), .methodLink RX4 59 yX4_isWeightTaken, .instanceMethod yX4_isWeightTaken, .selects RX4 yX4_isWeightTaken yX4_isWeightTaken, .code yX4_isWeightTaken cX4_isWeightTaken 3 (some .boolean)] ++ wsX40 ++ (vx_atM "java/lang/ArrayIndexOutOfBoundsException" ["java/lang/IndexOutOfBoundsException", "java/lang/RuntimeException", "java/lang/Exception"]).filter goodWord ++ (vx_atS RX4 67 "java/lang/IllegalArgumentException" ["java/lang/RuntimeException", "java/lang/Exception"]).filter goodWord ++ (vx_atS RX4 77 "java/lang/IllegalStateException" ["java/lang/RuntimeException", "java/lang/Exception"]).filter goodWord)
def wsL_setWidth_r1 : List Cond := [Cond.classLink RL 13 "java/lang/IllegalArgumentException", Cond.classLink RL 15 "java/lang/IllegalStateException", Cond.methodLink RL 17 yX4_setWidth, Cond.instanceMethod yX4_setWidth, Cond.selects RX4 yX4_setWidth yX4_setWidth, Cond.initialized RX4, Cond.code yX4_setWidth cX4_setWidth 3 (some .int), Cond.classLink RX4 63 "java/lang/IllegalArgumentException", Cond.initialized "java/lang/IllegalArgumentException", Cond.classLink RX4 73 "java/lang/IllegalStateException", Cond.initialized "java/lang/IllegalStateException", Cond.fieldLink RX4 27 "PaperMachine" "orderBook" "LPaperMachine$OrderBook;", Cond.fieldLink RX4 13 "PaperMachine" "machineWidth" "I", Cond.methodLink RX4 55 yX4_isWithin, Cond.static yX4_isWithin, Cond.code yX4_isWithin cX4_isWithin 3 (some .boolean), Cond.methodLink RX4 80 yX3_widestOpen, Cond.instanceMethod yX3_widestOpen, Cond.selects RX3 yX3_widestOpen yX3_widestOpen, Cond.initialized RX3, Cond.code yX3_widestOpen cX3_widestOpen 3 (some .int), Cond.fieldLink RX3 24 "PaperMachine$OrderBook" "count" "I", Cond.fieldLink RX3 21 "PaperMachine$OrderBook" "lacking" "[I", Cond.fieldLink RX3 15 "PaperMachine$OrderBook" "widths" "[I"]
def wsL_setWidth_r2 : List Cond := [Cond.methodLink RX3 32 Lib.Math.max.name, Cond.static Lib.Math.max.name, Cond.initialized "java/lang/Math", Cond.code Lib.Math.max.name Lib.Math.max.code 2 (some .int)]
def wsL_setWidth : List Cond := .codeWith yL_setWidth cL_setWidth 4 (some .int) [(0, 9, 12, 13), (0, 9, 15, 15)] :: ((wsL_setWidth_r1 ++ wsL_setWidth_r2) ++ wsX40 ++ wsX30 ++ (vx_atM "java/lang/ArrayIndexOutOfBoundsException" ["java/lang/IndexOutOfBoundsException", "java/lang/RuntimeException", "java/lang/Exception"]).filter goodWord ++ (vx_atS RX4 67 "java/lang/IllegalArgumentException" ["java/lang/RuntimeException", "java/lang/Exception"]).filter goodWord ++ (vx_atS RX4 77 "java/lang/IllegalStateException" ["java/lang/RuntimeException", "java/lang/Exception"]).filter goodWord)
def wsL_change_r1 : List Cond := [Cond.classLink RL 23 "java/lang/IndexOutOfBoundsException", Cond.classLink RL 13 "java/lang/IllegalArgumentException", Cond.classLink RL 15 "java/lang/IllegalStateException", Cond.methodLink RL 20 yX4_change, Cond.instanceMethod yX4_change, Cond.selects RX4 yX4_change yX4_change, Cond.initialized RX4, Cond.code yX4_change cX4_change 4 (some .int), Cond.classLink RX4 89 "java/lang/IndexOutOfBoundsException", Cond.initialized "java/lang/IndexOutOfBoundsException", Cond.classLink RX4 63 "java/lang/IllegalArgumentException", Cond.initialized "java/lang/IllegalArgumentException", Cond.classLink RX4 73 "java/lang/IllegalStateException", Cond.initialized "java/lang/IllegalStateException", Cond.fieldLink RX4 17 "PaperMachine" "machineGrade" "I", Cond.fieldLink RX4 96 "PaperMachine" "changeHours" "I", Cond.fieldLink RX4 9 "PaperMachine" "weights" "[I", Cond.methodLink RX4 101 Lib.Math.abs.name, Cond.static Lib.Math.abs.name, Cond.initialized "java/lang/Math", Cond.code Lib.Math.abs.name Lib.Math.abs.code 1 (some .int), Cond.fieldLink RX4 20 "PaperMachine" "upward" "Z", Cond.methodLink RX4 86 yX4_isGrade, Cond.instanceMethod yX4_isGrade]
def wsL_change_r2 : List Cond := [Cond.selects RX4 yX4_isGrade yX4_isGrade, Cond.code yX4_isGrade cX4_isGrade 2 (some .boolean), Cond.fieldLink RX4 70 "PaperMachine" "gradeCount" "I"]
def wsL_change : List Cond := .codeWith yL_change cL_change 4 (some .int) [(0, 9, 12, 23), (0, 9, 15, 13), (0, 9, 18, 15)] :: ((wsL_change_r1 ++ wsL_change_r2) ++ wsX40 ++ (vx_atM "java/lang/ArrayIndexOutOfBoundsException" ["java/lang/IndexOutOfBoundsException", "java/lang/RuntimeException", "java/lang/Exception"]).filter goodWord ++ (vx_atS RX4 93 "java/lang/IndexOutOfBoundsException" ["java/lang/RuntimeException", "java/lang/Exception"]).filter goodWord ++ (vx_atS RX4 67 "java/lang/IllegalArgumentException" ["java/lang/RuntimeException", "java/lang/Exception"]).filter goodWord ++ (vx_atS RX4 77 "java/lang/IllegalStateException" ["java/lang/RuntimeException", "java/lang/Exception"]).filter goodWord)
def wsL_grade : List Cond := .codeWith yL_grade cL_grade 3 (some .int) [(0, 8, 11, 29)] :: ([.classLink RL 29 "java/util/NoSuchElementException", .methodLink RL 25 yX4_grade, .instanceMethod yX4_grade, .selects RX4 yX4_grade yX4_grade, .initialized RX4, .code yX4_grade cX4_grade 1 (some .int), .classLink RX4 107 "java/util/NoSuchElementException", .initialized "java/util/NoSuchElementException", .fieldLink RX4 17 "PaperMachine" "machineGrade" "I", .methodLink RX4 86 yX4_isGrade, .instanceMethod yX4_isGrade, .selects RX4 yX4_isGrade yX4_isGrade, .code yX4_isGrade cX4_isGrade 2 (some .boolean), .fieldLink RX4 70 "PaperMachine" "gradeCount" "I"] ++ wsX40 ++ (vx_atM "java/lang/ArrayIndexOutOfBoundsException" ["java/lang/IndexOutOfBoundsException", "java/lang/RuntimeException", "java/lang/Exception"]).filter goodWord ++ (nx_atS RX4 111 "java/util/NoSuchElementException" ["java/lang/RuntimeException", "java/lang/Exception"]).filter goodWord)
def wsL_next_r1 : List Cond := [Cond.classLink RL 29 "java/util/NoSuchElementException", Cond.methodLink RL 31 yX4_next, Cond.instanceMethod yX4_next, Cond.selects RX4 yX4_next yX4_next, Cond.initialized RX4, Cond.code yX4_next cX4_next 2 (some .int), Cond.classLink RX4 107 "java/util/NoSuchElementException", Cond.initialized "java/util/NoSuchElementException", Cond.fieldLink RX4 17 "PaperMachine" "machineGrade" "I", Cond.fieldLink RX4 9 "PaperMachine" "weights" "[I", Cond.fieldLink RX4 20 "PaperMachine" "upward" "Z", Cond.methodLink RX4 86 yX4_isGrade, Cond.instanceMethod yX4_isGrade, Cond.selects RX4 yX4_isGrade yX4_isGrade, Cond.code yX4_isGrade cX4_isGrade 2 (some .boolean), Cond.fieldLink RX4 70 "PaperMachine" "gradeCount" "I", Cond.methodLink RX4 112 yX4_nearestWaiting, Cond.instanceMethod yX4_nearestWaiting, Cond.selects RX4 yX4_nearestWaiting yX4_nearestWaiting, Cond.code yX4_nearestWaiting cX4_nearestWaiting 8 (some .int), Cond.fieldLink RX4 27 "PaperMachine" "orderBook" "LPaperMachine$OrderBook;", Cond.methodLink RX4 174 yX3_rollsLacking, Cond.instanceMethod yX3_rollsLacking, Cond.selects RX3 yX3_rollsLacking yX3_rollsLacking]
def wsL_next_r2 : List Cond := [Cond.initialized RX3, Cond.code yX3_rollsLacking cX3_rollsLacking 4 (some .int), Cond.fieldLink RX3 24 "PaperMachine$OrderBook" "count" "I", Cond.fieldLink RX3 9 "PaperMachine$OrderBook" "grades" "[I", Cond.fieldLink RX3 21 "PaperMachine$OrderBook" "lacking" "[I"]
def wsL_next : List Cond := .codeWith yL_next cL_next 3 (some .int) [(0, 8, 11, 29)] :: ((wsL_next_r1 ++ wsL_next_r2) ++ wsX40 ++ wsX30 ++ (vx_atM "java/lang/ArrayIndexOutOfBoundsException" ["java/lang/IndexOutOfBoundsException", "java/lang/RuntimeException", "java/lang/Exception"]).filter goodWord ++ (nx_atS RX4 111 "java/util/NoSuchElementException" ["java/lang/RuntimeException", "java/lang/Exception"]).filter goodWord)
def wsL_mass : List Cond := .codeWith yL_mass cL_mass 4 (some .int) [(0, 9, 12, 23)] :: ([.classLink RL 23 "java/lang/IndexOutOfBoundsException", .methodLink RL 34 yX4_mass, .instanceMethod yX4_mass, .selects RX4 yX4_mass yX4_mass, .initialized RX4, .code yX4_mass cX4_mass 2 (some .int), .classLink RX4 89 "java/lang/IndexOutOfBoundsException", .initialized "java/lang/IndexOutOfBoundsException", .methodLink RX4 86 yX4_isGrade, .instanceMethod yX4_isGrade, .selects RX4 yX4_isGrade yX4_isGrade, .code yX4_isGrade cX4_isGrade 2 (some .boolean), .fieldLink RX4 70 "PaperMachine" "gradeCount" "I", .methodLink RX4 118 yX4_massOfAnHour, .instanceMethod yX4_massOfAnHour, .selects RX4 yX4_massOfAnHour yX4_massOfAnHour, .code yX4_massOfAnHour cX4_massOfAnHour 2 (some .int), .fieldLink RX4 9 "PaperMachine" "weights" "[I", .fieldLink RX4 13 "PaperMachine" "machineWidth" "I"] ++ wsX40 ++ (vx_atM "java/lang/ArrayIndexOutOfBoundsException" ["java/lang/IndexOutOfBoundsException", "java/lang/RuntimeException", "java/lang/Exception"]).filter goodWord ++ (vx_atS RX4 93 "java/lang/IndexOutOfBoundsException" ["java/lang/RuntimeException", "java/lang/Exception"]).filter goodWord)
def wsL_order_r1 : List Cond := [Cond.classLink RL 23 "java/lang/IndexOutOfBoundsException", Cond.classLink RL 13 "java/lang/IllegalArgumentException", Cond.classLink RL 41 "java/lang/UnsupportedOperationException", Cond.classLink RL 15 "java/lang/IllegalStateException", Cond.methodLink RL 37 yX4_order, Cond.instanceMethod yX4_order, Cond.selects RX4 yX4_order yX4_order, Cond.initialized RX4, Cond.code yX4_order cX4_order 4 (some .int), Cond.classLink RX4 89 "java/lang/IndexOutOfBoundsException", Cond.initialized "java/lang/IndexOutOfBoundsException", Cond.classLink RX4 63 "java/lang/IllegalArgumentException", Cond.initialized "java/lang/IllegalArgumentException", Cond.classLink RX4 123 "java/lang/UnsupportedOperationException", Cond.initialized "java/lang/UnsupportedOperationException", Cond.classLink RX4 73 "java/lang/IllegalStateException", Cond.initialized "java/lang/IllegalStateException", Cond.fieldLink RX4 13 "PaperMachine" "machineWidth" "I", Cond.fieldLink RX4 27 "PaperMachine" "orderBook" "LPaperMachine$OrderBook;", Cond.methodLink RX4 86 yX4_isGrade, Cond.instanceMethod yX4_isGrade, Cond.selects RX4 yX4_isGrade yX4_isGrade, Cond.code yX4_isGrade cX4_isGrade 2 (some .boolean), Cond.fieldLink RX4 70 "PaperMachine" "gradeCount" "I"]
def wsL_order_r2 : List Cond := [Cond.methodLink RX4 55 yX4_isWithin, Cond.static yX4_isWithin, Cond.code yX4_isWithin cX4_isWithin 3 (some .boolean), Cond.methodLink RX4 128 yX3_isFull, Cond.instanceMethod yX3_isFull, Cond.selects RX3 yX3_isFull yX3_isFull, Cond.initialized RX3, Cond.code yX3_isFull cX3_isFull 1 (some .boolean), Cond.fieldLink RX3 24 "PaperMachine$OrderBook" "count" "I", Cond.methodLink RX4 134 yX3_write, Cond.instanceMethod yX3_write, Cond.selects RX3 yX3_write yX3_write, Cond.code yX3_write cX3_write 5 (some .int), Cond.fieldLink RX3 9 "PaperMachine$OrderBook" "grades" "[I", Cond.fieldLink RX3 15 "PaperMachine$OrderBook" "widths" "[I", Cond.fieldLink RX3 18 "PaperMachine$OrderBook" "rollsCut" "[I", Cond.fieldLink RX3 21 "PaperMachine$OrderBook" "lacking" "[I", Cond.methodLink RX3 28 yX3_isFull]
def wsL_order : List Cond := .codeWith yL_order cL_order 6 (some .int) [(0, 12, 15, 23), (0, 12, 19, 13), (0, 12, 23, 41), (0, 12, 27, 15)] :: ((wsL_order_r1 ++ wsL_order_r2) ++ wsX40 ++ wsX30 ++ (vx_atM "java/lang/ArrayIndexOutOfBoundsException" ["java/lang/IndexOutOfBoundsException", "java/lang/RuntimeException", "java/lang/Exception"]).filter goodWord ++ (vx_atS RX4 93 "java/lang/IndexOutOfBoundsException" ["java/lang/RuntimeException", "java/lang/Exception"]).filter goodWord ++ (vx_atS RX4 67 "java/lang/IllegalArgumentException" ["java/lang/RuntimeException", "java/lang/Exception"]).filter goodWord ++ (vx_atS RX4 127 "java/lang/UnsupportedOperationException" ["java/lang/RuntimeException", "java/lang/Exception"]).filter goodWord ++ (vx_atS RX4 77 "java/lang/IllegalStateException" ["java/lang/RuntimeException", "java/lang/Exception"]).filter goodWord)
def wsL_cancel : List Cond := .codeWith yL_cancel cL_cancel 4 (some .int) [(0, 9, 12, 23), (0, 9, 15, 15)] :: ([.classLink RL 23 "java/lang/IndexOutOfBoundsException", .classLink RL 15 "java/lang/IllegalStateException", .methodLink RL 43 yX4_cancel, .instanceMethod yX4_cancel, .selects RX4 yX4_cancel yX4_cancel, .initialized RX4, .code yX4_cancel cX4_cancel 3 (some .int), .classLink RX4 89 "java/lang/IndexOutOfBoundsException", .initialized "java/lang/IndexOutOfBoundsException", .classLink RX4 73 "java/lang/IllegalStateException", .initialized "java/lang/IllegalStateException", .fieldLink RX4 27 "PaperMachine" "orderBook" "LPaperMachine$OrderBook;", .fieldLink RX4 143 "PaperMachine$OrderBook" "lacking" "[I", .methodLink RX4 138 yX3_has, .instanceMethod yX3_has, .selects RX3 yX3_has yX3_has, .initialized RX3, .code yX3_has cX3_has 2 (some .boolean), .fieldLink RX3 24 "PaperMachine$OrderBook" "count" "I"] ++ wsX40 ++ wsX30 ++ (vx_atM "java/lang/ArrayIndexOutOfBoundsException" ["java/lang/IndexOutOfBoundsException", "java/lang/RuntimeException", "java/lang/Exception"]).filter goodWord ++ (vx_atS RX4 93 "java/lang/IndexOutOfBoundsException" ["java/lang/RuntimeException", "java/lang/Exception"]).filter goodWord ++ (vx_atS RX4 77 "java/lang/IllegalStateException" ["java/lang/RuntimeException", "java/lang/Exception"]).filter goodWord)
def wsL_cut : List Cond := .codeWith yL_cut cL_cut 4 (some .int) [(0, 9, 12, 23)] :: ([.classLink RL 23 "java/lang/IndexOutOfBoundsException", .methodLink RL 46 yX4_cut, .instanceMethod yX4_cut, .selects RX4 yX4_cut yX4_cut, .initialized RX4, .code yX4_cut cX4_cut 2 (some .int), .classLink RX4 89 "java/lang/IndexOutOfBoundsException", .initialized "java/lang/IndexOutOfBoundsException", .fieldLink RX4 27 "PaperMachine" "orderBook" "LPaperMachine$OrderBook;", .fieldLink RX4 148 "PaperMachine$OrderBook" "rollsCut" "[I", .methodLink RX4 138 yX3_has, .instanceMethod yX3_has, .selects RX3 yX3_has yX3_has, .initialized RX3, .code yX3_has cX3_has 2 (some .boolean), .fieldLink RX3 24 "PaperMachine$OrderBook" "count" "I"] ++ wsX40 ++ wsX30 ++ (vx_atM "java/lang/ArrayIndexOutOfBoundsException" ["java/lang/IndexOutOfBoundsException", "java/lang/RuntimeException", "java/lang/Exception"]).filter goodWord ++ (vx_atS RX4 93 "java/lang/IndexOutOfBoundsException" ["java/lang/RuntimeException", "java/lang/Exception"]).filter goodWord)
def wsL_lacks : List Cond := .codeWith yL_lacks cL_lacks 4 (some .int) [(0, 9, 12, 23)] :: ([.classLink RL 23 "java/lang/IndexOutOfBoundsException", .methodLink RL 49 yX4_lacks, .instanceMethod yX4_lacks, .selects RX4 yX4_lacks yX4_lacks, .initialized RX4, .code yX4_lacks cX4_lacks 2 (some .int), .classLink RX4 89 "java/lang/IndexOutOfBoundsException", .initialized "java/lang/IndexOutOfBoundsException", .fieldLink RX4 27 "PaperMachine" "orderBook" "LPaperMachine$OrderBook;", .fieldLink RX4 143 "PaperMachine$OrderBook" "lacking" "[I", .methodLink RX4 138 yX3_has, .instanceMethod yX3_has, .selects RX3 yX3_has yX3_has, .initialized RX3, .code yX3_has cX3_has 2 (some .boolean), .fieldLink RX3 24 "PaperMachine$OrderBook" "count" "I"] ++ wsX40 ++ wsX30 ++ (vx_atM "java/lang/ArrayIndexOutOfBoundsException" ["java/lang/IndexOutOfBoundsException", "java/lang/RuntimeException", "java/lang/Exception"]).filter goodWord ++ (vx_atS RX4 93 "java/lang/IndexOutOfBoundsException" ["java/lang/RuntimeException", "java/lang/Exception"]).filter goodWord)
def wsL_trim_r1 : List Cond := [Cond.classLink RL 23 "java/lang/IndexOutOfBoundsException", Cond.methodLink RL 52 yX4_trim, Cond.instanceMethod yX4_trim, Cond.selects RX4 yX4_trim yX4_trim, Cond.initialized RX4, Cond.code yX4_trim cX4_trim 2 (some .int), Cond.classLink RX4 89 "java/lang/IndexOutOfBoundsException", Cond.initialized "java/lang/IndexOutOfBoundsException", Cond.fieldLink RX4 34 "PaperMachine" "cutter" "LPaperMachine$Cutter;", Cond.fieldLink RX4 27 "PaperMachine" "orderBook" "LPaperMachine$OrderBook;", Cond.fieldLink RX4 13 "PaperMachine" "machineWidth" "I", Cond.methodLink RX4 86 yX4_isGrade, Cond.instanceMethod yX4_isGrade, Cond.selects RX4 yX4_isGrade yX4_isGrade, Cond.code yX4_isGrade cX4_isGrade 2 (some .boolean), Cond.fieldLink RX4 70 "PaperMachine" "gradeCount" "I", Cond.methodLink RX4 151 yX1_load, Cond.instanceMethod yX1_load, Cond.selects RX1 yX1_load yX1_load, Cond.initialized RX1, Cond.code yX1_load cX1_load 7 none, Cond.methodLink RX1 30 Lib.Math.min.name, Cond.static Lib.Math.min.name, Cond.initialized "java/lang/Math"]
def wsL_trim_r2 : List Cond := [Cond.code Lib.Math.min.name Lib.Math.min.code 2 (some .int), Cond.methodLink RX1 36 Lib.Math.max.name, Cond.static Lib.Math.max.name, Cond.code Lib.Math.max.name Lib.Math.max.code 2 (some .int), Cond.fieldLink RX1 39 "PaperMachine$Cutter" "room" "I", Cond.fieldLink RX1 49 "PaperMachine$OrderBook" "grades" "[I", Cond.fieldLink RX1 18 "PaperMachine$Cutter" "widths" "[I", Cond.fieldLink RX1 52 "PaperMachine$OrderBook" "widths" "[I", Cond.fieldLink RX1 21 "PaperMachine$Cutter" "mostRolls" "[I", Cond.fieldLink RX1 53 "PaperMachine$OrderBook" "lacking" "[I", Cond.fieldLink RX1 24 "PaperMachine$Cutter" "widestFrom" "[I", Cond.methodLink RX1 43 yX3_has, Cond.instanceMethod yX3_has, Cond.selects RX3 yX3_has yX3_has, Cond.initialized RX3, Cond.code yX3_has cX3_has 2 (some .boolean), Cond.fieldLink RX3 24 "PaperMachine$OrderBook" "count" "I", Cond.methodLink RX4 155 yX1_sumBySearch, Cond.instanceMethod yX1_sumBySearch, Cond.selects RX1 yX1_sumBySearch yX1_sumBySearch, Cond.code yX1_sumBySearch cX1_sumBySearch 1 (some .int), Cond.fieldLink RX1 56 "PaperMachine$Cutter" "bestSum" "I", Cond.fieldLink RX1 9 "PaperMachine$Cutter" "best" "[I", Cond.methodLink RX1 59 yJ7_fill_53178]
def wsL_trim_r3 : List Cond := [Cond.static yJ7_fill_53178, Cond.initialized RJ7, Cond.code yJ7_fill_53178 cJ7_fill_53178 4 none, Cond.methodLink RX1 65 yX1_search, Cond.static yX1_search, Cond.code yX1_search cX1_search 7 none, Cond.fieldLink RX1 15 "PaperMachine$Cutter" "trial" "[I", Cond.methodLink RX1 69 yX1_keepIfGreater, Cond.instanceMethod yX1_keepIfGreater, Cond.selects RX1 yX1_keepIfGreater yX1_keepIfGreater, Cond.code yX1_keepIfGreater cX1_keepIfGreater 2 none, Cond.methodLink RX1 73 arraycopyName, Cond.native arraycopyName, Cond.static arraycopyName, Cond.initialized "java/lang/System"]
def wsL_trim : List Cond := .codeWith yL_trim cL_trim 4 (some .int) [(0, 9, 12, 23)] :: ((wsL_trim_r1 ++ (wsL_trim_r2 ++ wsL_trim_r3)) ++ wsX40 ++ wsX10 ++ wsX30 ++ (vx_atM "java/lang/ArrayIndexOutOfBoundsException" ["java/lang/IndexOutOfBoundsException", "java/lang/RuntimeException", "java/lang/Exception"]).filter goodWord ++ (vx_atS RX4 93 "java/lang/IndexOutOfBoundsException" ["java/lang/RuntimeException", "java/lang/Exception"]).filter goodWord)
def wsL_trimByTable_r1 : List Cond := [Cond.classLink RL 23 "java/lang/IndexOutOfBoundsException", Cond.methodLink RL 55 yX4_trimByTable, Cond.instanceMethod yX4_trimByTable, Cond.selects RX4 yX4_trimByTable yX4_trimByTable, Cond.initialized RX4, Cond.code yX4_trimByTable cX4_trimByTable 2 (some .int), Cond.classLink RX4 89 "java/lang/IndexOutOfBoundsException", Cond.initialized "java/lang/IndexOutOfBoundsException", Cond.fieldLink RX4 34 "PaperMachine" "cutter" "LPaperMachine$Cutter;", Cond.fieldLink RX4 27 "PaperMachine" "orderBook" "LPaperMachine$OrderBook;", Cond.fieldLink RX4 13 "PaperMachine" "machineWidth" "I", Cond.methodLink RX4 86 yX4_isGrade, Cond.instanceMethod yX4_isGrade, Cond.selects RX4 yX4_isGrade yX4_isGrade, Cond.code yX4_isGrade cX4_isGrade 2 (some .boolean), Cond.fieldLink RX4 70 "PaperMachine" "gradeCount" "I", Cond.methodLink RX4 151 yX1_load, Cond.instanceMethod yX1_load, Cond.selects RX1 yX1_load yX1_load, Cond.initialized RX1, Cond.code yX1_load cX1_load 7 none, Cond.methodLink RX1 30 Lib.Math.min.name, Cond.static Lib.Math.min.name, Cond.initialized "java/lang/Math"]
def wsL_trimByTable_r2 : List Cond := [Cond.code Lib.Math.min.name Lib.Math.min.code 2 (some .int), Cond.methodLink RX1 36 Lib.Math.max.name, Cond.static Lib.Math.max.name, Cond.code Lib.Math.max.name Lib.Math.max.code 2 (some .int), Cond.fieldLink RX1 39 "PaperMachine$Cutter" "room" "I", Cond.fieldLink RX1 49 "PaperMachine$OrderBook" "grades" "[I", Cond.fieldLink RX1 18 "PaperMachine$Cutter" "widths" "[I", Cond.fieldLink RX1 52 "PaperMachine$OrderBook" "widths" "[I", Cond.fieldLink RX1 21 "PaperMachine$Cutter" "mostRolls" "[I", Cond.fieldLink RX1 53 "PaperMachine$OrderBook" "lacking" "[I", Cond.fieldLink RX1 24 "PaperMachine$Cutter" "widestFrom" "[I", Cond.methodLink RX1 43 yX3_has, Cond.instanceMethod yX3_has, Cond.selects RX3 yX3_has yX3_has, Cond.initialized RX3, Cond.code yX3_has cX3_has 2 (some .boolean), Cond.fieldLink RX3 24 "PaperMachine$OrderBook" "count" "I", Cond.methodLink RX4 158 yX1_sumByTable, Cond.instanceMethod yX1_sumByTable, Cond.selects RX1 yX1_sumByTable yX1_sumByTable, Cond.code yX1_sumByTable cX1_sumByTable 3 (some .int), Cond.fieldLink RX1 27 "PaperMachine$Cutter" "fewest" "[I", Cond.methodLink RX1 59 yJ7_fill_53178, Cond.static yJ7_fill_53178]
def wsL_trimByTable_r3 : List Cond := [Cond.initialized RJ7, Cond.code yJ7_fill_53178 cJ7_fill_53178 4 none, Cond.methodLink RX1 79 yX1_addRollToTable, Cond.instanceMethod yX1_addRollToTable, Cond.selects RX1 yX1_addRollToTable yX1_addRollToTable, Cond.code yX1_addRollToTable cX1_addRollToTable 3 none]
def wsL_trimByTable : List Cond := .codeWith yL_trimByTable cL_trimByTable 4 (some .int) [(0, 9, 12, 23)] :: ((wsL_trimByTable_r1 ++ (wsL_trimByTable_r2 ++ wsL_trimByTable_r3)) ++ wsX40 ++ wsX10 ++ wsX30 ++ (vx_atM "java/lang/ArrayIndexOutOfBoundsException" ["java/lang/IndexOutOfBoundsException", "java/lang/RuntimeException", "java/lang/Exception"]).filter goodWord ++ (vx_atS RX4 93 "java/lang/IndexOutOfBoundsException" ["java/lang/RuntimeException", "java/lang/Exception"]).filter goodWord)
def wsL_inCut_r1 : List Cond := [Cond.classLink RL 23 "java/lang/IndexOutOfBoundsException", Cond.methodLink RL 58 yX4_inCut, Cond.instanceMethod yX4_inCut, Cond.selects RX4 yX4_inCut yX4_inCut, Cond.initialized RX4, Cond.code yX4_inCut cX4_inCut 2 (some .int), Cond.classLink RX4 89 "java/lang/IndexOutOfBoundsException", Cond.initialized "java/lang/IndexOutOfBoundsException", Cond.fieldLink RX4 27 "PaperMachine" "orderBook" "LPaperMachine$OrderBook;", Cond.fieldLink RX4 34 "PaperMachine" "cutter" "LPaperMachine$Cutter;", Cond.fieldLink RX4 161 "PaperMachine$OrderBook" "grades" "[I", Cond.fieldLink RX4 13 "PaperMachine" "machineWidth" "I", Cond.fieldLink RX4 164 "PaperMachine$Cutter" "best" "[I", Cond.methodLink RX4 138 yX3_has, Cond.instanceMethod yX3_has, Cond.selects RX3 yX3_has yX3_has, Cond.initialized RX3, Cond.code yX3_has cX3_has 2 (some .boolean), Cond.fieldLink RX3 24 "PaperMachine$OrderBook" "count" "I", Cond.methodLink RX4 151 yX1_load, Cond.instanceMethod yX1_load, Cond.selects RX1 yX1_load yX1_load, Cond.initialized RX1, Cond.code yX1_load cX1_load 7 none]
def wsL_inCut_r2 : List Cond := [Cond.methodLink RX1 30 Lib.Math.min.name, Cond.static Lib.Math.min.name, Cond.initialized "java/lang/Math", Cond.code Lib.Math.min.name Lib.Math.min.code 2 (some .int), Cond.methodLink RX1 36 Lib.Math.max.name, Cond.static Lib.Math.max.name, Cond.code Lib.Math.max.name Lib.Math.max.code 2 (some .int), Cond.fieldLink RX1 39 "PaperMachine$Cutter" "room" "I", Cond.fieldLink RX1 49 "PaperMachine$OrderBook" "grades" "[I", Cond.fieldLink RX1 18 "PaperMachine$Cutter" "widths" "[I", Cond.fieldLink RX1 52 "PaperMachine$OrderBook" "widths" "[I", Cond.fieldLink RX1 21 "PaperMachine$Cutter" "mostRolls" "[I", Cond.fieldLink RX1 53 "PaperMachine$OrderBook" "lacking" "[I", Cond.fieldLink RX1 24 "PaperMachine$Cutter" "widestFrom" "[I", Cond.methodLink RX1 43 yX3_has, Cond.methodLink RX4 155 yX1_sumBySearch, Cond.instanceMethod yX1_sumBySearch, Cond.selects RX1 yX1_sumBySearch yX1_sumBySearch, Cond.code yX1_sumBySearch cX1_sumBySearch 1 (some .int), Cond.fieldLink RX1 56 "PaperMachine$Cutter" "bestSum" "I", Cond.fieldLink RX1 9 "PaperMachine$Cutter" "best" "[I", Cond.methodLink RX1 59 yJ7_fill_53178, Cond.static yJ7_fill_53178, Cond.initialized RJ7]
def wsL_inCut_r3 : List Cond := [Cond.code yJ7_fill_53178 cJ7_fill_53178 4 none, Cond.methodLink RX1 65 yX1_search, Cond.static yX1_search, Cond.code yX1_search cX1_search 7 none, Cond.fieldLink RX1 15 "PaperMachine$Cutter" "trial" "[I", Cond.methodLink RX1 69 yX1_keepIfGreater, Cond.instanceMethod yX1_keepIfGreater, Cond.selects RX1 yX1_keepIfGreater yX1_keepIfGreater, Cond.code yX1_keepIfGreater cX1_keepIfGreater 2 none, Cond.methodLink RX1 73 arraycopyName, Cond.native arraycopyName, Cond.static arraycopyName, Cond.initialized "java/lang/System"]
def wsL_inCut : List Cond := .codeWith yL_inCut cL_inCut 4 (some .int) [(0, 9, 12, 23)] :: ((wsL_inCut_r1 ++ (wsL_inCut_r2 ++ wsL_inCut_r3)) ++ wsX40 ++ wsX30 ++ wsX10 ++ (vx_atM "java/lang/ArrayIndexOutOfBoundsException" ["java/lang/IndexOutOfBoundsException", "java/lang/RuntimeException", "java/lang/Exception"]).filter goodWord ++ (vx_atS RX4 93 "java/lang/IndexOutOfBoundsException" ["java/lang/RuntimeException", "java/lang/Exception"]).filter goodWord)
def wsL_leastHours_r1 : List Cond := [Cond.classLink RL 23 "java/lang/IndexOutOfBoundsException", Cond.methodLink RL 61 yX4_leastHours, Cond.instanceMethod yX4_leastHours, Cond.selects RX4 yX4_leastHours yX4_leastHours, Cond.initialized RX4, Cond.code yX4_leastHours cX4_leastHours 4 (some .int), Cond.classLink RX4 89 "java/lang/IndexOutOfBoundsException", Cond.initialized "java/lang/IndexOutOfBoundsException", Cond.fieldLink RX4 27 "PaperMachine" "orderBook" "LPaperMachine$OrderBook;", Cond.fieldLink RX4 13 "PaperMachine" "machineWidth" "I", Cond.methodLink RX4 177 Lib.Math.max.name, Cond.static Lib.Math.max.name, Cond.initialized "java/lang/Math", Cond.code Lib.Math.max.name Lib.Math.max.code 2 (some .int), Cond.methodLink RX4 86 yX4_isGrade, Cond.instanceMethod yX4_isGrade, Cond.selects RX4 yX4_isGrade yX4_isGrade, Cond.code yX4_isGrade cX4_isGrade 2 (some .boolean), Cond.fieldLink RX4 70 "PaperMachine" "gradeCount" "I", Cond.methodLink RX4 167 yX3_widthLacking, Cond.instanceMethod yX3_widthLacking, Cond.selects RX3 yX3_widthLacking yX3_widthLacking, Cond.initialized RX3, Cond.code yX3_widthLacking cX3_widthLacking 4 (some .int)]
def wsL_leastHours_r2 : List Cond := [Cond.fieldLink RX3 24 "PaperMachine$OrderBook" "count" "I", Cond.fieldLink RX3 9 "PaperMachine$OrderBook" "grades" "[I", Cond.fieldLink RX3 21 "PaperMachine$OrderBook" "lacking" "[I", Cond.fieldLink RX3 15 "PaperMachine$OrderBook" "widths" "[I", Cond.methodLink RX4 170 yX4_quotientUp, Cond.static yX4_quotientUp, Cond.code yX4_quotientUp cX4_quotientUp 2 (some .int), Cond.methodLink RX4 174 yX3_rollsLacking, Cond.instanceMethod yX3_rollsLacking, Cond.selects RX3 yX3_rollsLacking yX3_rollsLacking, Cond.code yX3_rollsLacking cX3_rollsLacking 4 (some .int)]
def wsL_leastHours : List Cond := .codeWith yL_leastHours cL_leastHours 4 (some .int) [(0, 9, 12, 23)] :: ((wsL_leastHours_r1 ++ wsL_leastHours_r2) ++ wsX40 ++ wsX30 ++ (vx_atM "java/lang/ArrayIndexOutOfBoundsException" ["java/lang/IndexOutOfBoundsException", "java/lang/RuntimeException", "java/lang/Exception"]).filter goodWord ++ (vx_atS RX4 93 "java/lang/IndexOutOfBoundsException" ["java/lang/RuntimeException", "java/lang/Exception"]).filter goodWord ++ (vx_atM "java/lang/ArithmeticException" ["java/lang/RuntimeException", "java/lang/Exception"]).filter goodWord)
def wsL_setShare : List Cond := .codeWith yL_setShare cL_setShare 4 (some .int) [(0, 9, 12, 13)] :: ([.classLink RL 13 "java/lang/IllegalArgumentException", .methodLink RL 64 yX4_setShare, .instanceMethod yX4_setShare, .selects RX4 yX4_setShare yX4_setShare, .initialized RX4, .code yX4_setShare cX4_setShare 3 (some .int), .classLink RX4 63 "java/lang/IllegalArgumentException", .initialized "java/lang/IllegalArgumentException", .fieldLink RX4 52 "PaperMachine" "share" "I", .methodLink RX4 55 yX4_isWithin, .static yX4_isWithin, .code yX4_isWithin cX4_isWithin 3 (some .boolean)] ++ wsX40 ++ (vx_atM "java/lang/ArrayIndexOutOfBoundsException" ["java/lang/IndexOutOfBoundsException", "java/lang/RuntimeException", "java/lang/Exception"]).filter goodWord ++ (vx_atS RX4 67 "java/lang/IllegalArgumentException" ["java/lang/RuntimeException", "java/lang/Exception"]).filter goodWord)
def wsL_setContract : List Cond := .codeWith yL_setContract cL_setContract 6 (some .int) [(0, 12, 15, 13)] :: ([.classLink RL 13 "java/lang/IllegalArgumentException", .methodLink RL 67 yX4_setContract, .instanceMethod yX4_setContract, .selects RX4 yX4_setContract yX4_setContract, .initialized RX4, .code yX4_setContract cX4_setContract 5 (some .int), .classLink RX4 63 "java/lang/IllegalArgumentException", .initialized "java/lang/IllegalArgumentException", .fieldLink RX4 41 "PaperMachine" "contract" "LPaperMachine$Contract;", .fieldLink RX4 184 "PaperMachine$Contract" "limit" "I", .fieldLink RX4 187 "PaperMachine$Contract" "firstPrice" "I", .fieldLink RX4 190 "PaperMachine$Contract" "secondPrice" "I", .methodLink RX4 55 yX4_isWithin, .static yX4_isWithin, .code yX4_isWithin cX4_isWithin 3 (some .boolean)] ++ wsX40 ++ wsX00 ++ (vx_atM "java/lang/ArrayIndexOutOfBoundsException" ["java/lang/IndexOutOfBoundsException", "java/lang/RuntimeException", "java/lang/Exception"]).filter goodWord ++ (vx_atS RX4 67 "java/lang/IllegalArgumentException" ["java/lang/RuntimeException", "java/lang/Exception"]).filter goodWord)
def wsL_pass_r1 : List Cond := [Cond.classLink RL 13 "java/lang/IllegalArgumentException", Cond.classLink RL 15 "java/lang/IllegalStateException", Cond.methodLink RL 70 yX4_pass, Cond.instanceMethod yX4_pass, Cond.selects RX4 yX4_pass yX4_pass, Cond.initialized RX4, Cond.code yX4_pass cX4_pass 4 (some .int), Cond.classLink RX4 63 "java/lang/IllegalArgumentException", Cond.initialized "java/lang/IllegalArgumentException", Cond.classLink RX4 73 "java/lang/IllegalStateException", Cond.initialized "java/lang/IllegalStateException", Cond.fieldLink RX4 48 "PaperMachine" "hourBook" "LPaperMachine$HourBook;", Cond.fieldLink RX4 195 "PaperMachine$HourBook" "count" "I", Cond.methodLink RX4 55 yX4_isWithin, Cond.static yX4_isWithin, Cond.code yX4_isWithin cX4_isWithin 3 (some .boolean), Cond.methodLink RX4 200 yX4_passAnHour, Cond.instanceMethod yX4_passAnHour, Cond.selects RX4 yX4_passAnHour yX4_passAnHour, Cond.code yX4_passAnHour cX4_passAnHour 4 (some .int), Cond.fieldLink RX4 17 "PaperMachine" "machineGrade" "I", Cond.fieldLink RX4 96 "PaperMachine" "changeHours" "I", Cond.fieldLink RX4 34 "PaperMachine" "cutter" "LPaperMachine$Cutter;", Cond.fieldLink RX4 27 "PaperMachine" "orderBook" "LPaperMachine$OrderBook;"]
def wsL_pass_r2 : List Cond := [Cond.fieldLink RX4 13 "PaperMachine" "machineWidth" "I", Cond.fieldLink RX4 164 "PaperMachine$Cutter" "best" "[I", Cond.methodLink RX4 86 yX4_isGrade, Cond.instanceMethod yX4_isGrade, Cond.selects RX4 yX4_isGrade yX4_isGrade, Cond.code yX4_isGrade cX4_isGrade 2 (some .boolean), Cond.fieldLink RX4 70 "PaperMachine" "gradeCount" "I", Cond.methodLink RX4 245 yX2_writeNothing, Cond.instanceMethod yX2_writeNothing, Cond.selects RX2 yX2_writeNothing yX2_writeNothing, Cond.initialized RX2, Cond.code yX2_writeNothing cX2_writeNothing 1 none, Cond.methodLink RX2 29 yX2_writeMade, Cond.instanceMethod yX2_writeMade, Cond.selects RX2 yX2_writeMade yX2_writeMade, Cond.code yX2_writeMade cX2_writeMade 5 none, Cond.fieldLink RX2 25 "PaperMachine$HourBook" "count" "I", Cond.fieldLink RX2 9 "PaperMachine$HourBook" "kinds" "[C", Cond.fieldLink RX2 15 "PaperMachine$HourBook" "freshIn" "[I", Cond.fieldLink RX2 19 "PaperMachine$HourBook" "paperOut" "[I", Cond.fieldLink RX2 22 "PaperMachine$HourBook" "lossOut" "[I", Cond.fieldLink RX2 33 "PaperMachine$HourBook" "freshSum" "J", Cond.fieldLink RX2 37 "PaperMachine$HourBook" "paperSum" "J", Cond.fieldLink RX2 40 "PaperMachine$HourBook" "lossSum" "J"]
def wsL_pass_r3 : List Cond := [Cond.methodLink RX4 118 yX4_massOfAnHour, Cond.instanceMethod yX4_massOfAnHour, Cond.selects RX4 yX4_massOfAnHour yX4_massOfAnHour, Cond.code yX4_massOfAnHour cX4_massOfAnHour 2 (some .int), Cond.fieldLink RX4 9 "PaperMachine" "weights" "[I", Cond.methodLink RX4 248 yX4_make, Cond.instanceMethod yX4_make, Cond.selects RX4 yX4_make yX4_make, Cond.code yX4_make cX4_make 7 none, Cond.fieldLink RX4 203 "PaperMachine" "brokeKept" "I", Cond.fieldLink RX4 52 "PaperMachine" "share" "I", Cond.methodLink RX4 263 Lib.Math.min.name, Cond.static Lib.Math.min.name, Cond.initialized "java/lang/Math", Cond.code Lib.Math.min.name Lib.Math.min.code 2 (some .int), Cond.fieldLink RX4 229 "PaperMachine$HourBook" "massSum" "J", Cond.fieldLink RX4 226 "PaperMachine" "steamSum" "J", Cond.fieldLink RX4 41 "PaperMachine" "contract" "LPaperMachine$Contract;", Cond.methodLink RX4 266 yX2_writeMade, Cond.methodLink RX4 270 yX0_cost, Cond.instanceMethod yX0_cost, Cond.selects RX0 yX0_cost yX0_cost, Cond.initialized RX0, Cond.code yX0_cost cX0_cost 3 (some .long)]
def wsL_pass_r4 : List Cond := [Cond.fieldLink RX0 7 "PaperMachine$Contract" "limit" "I", Cond.methodLink RX0 19 Lib.Math.min.name, Cond.fieldLink RX0 13 "PaperMachine$Contract" "firstPrice" "I", Cond.fieldLink RX0 16 "PaperMachine$Contract" "secondPrice" "I", Cond.methodLink RX4 151 yX1_load, Cond.instanceMethod yX1_load, Cond.selects RX1 yX1_load yX1_load, Cond.initialized RX1, Cond.code yX1_load cX1_load 7 none, Cond.methodLink RX1 30 Lib.Math.min.name, Cond.methodLink RX1 36 Lib.Math.max.name, Cond.static Lib.Math.max.name, Cond.code Lib.Math.max.name Lib.Math.max.code 2 (some .int), Cond.fieldLink RX1 39 "PaperMachine$Cutter" "room" "I", Cond.fieldLink RX1 49 "PaperMachine$OrderBook" "grades" "[I", Cond.fieldLink RX1 18 "PaperMachine$Cutter" "widths" "[I", Cond.fieldLink RX1 52 "PaperMachine$OrderBook" "widths" "[I", Cond.fieldLink RX1 21 "PaperMachine$Cutter" "mostRolls" "[I", Cond.fieldLink RX1 53 "PaperMachine$OrderBook" "lacking" "[I", Cond.fieldLink RX1 24 "PaperMachine$Cutter" "widestFrom" "[I", Cond.methodLink RX1 43 yX3_has, Cond.instanceMethod yX3_has, Cond.selects RX3 yX3_has yX3_has, Cond.initialized RX3]
def wsL_pass_r5 : List Cond := [Cond.code yX3_has cX3_has 2 (some .boolean), Cond.fieldLink RX3 24 "PaperMachine$OrderBook" "count" "I", Cond.methodLink RX4 155 yX1_sumBySearch, Cond.instanceMethod yX1_sumBySearch, Cond.selects RX1 yX1_sumBySearch yX1_sumBySearch, Cond.code yX1_sumBySearch cX1_sumBySearch 1 (some .int), Cond.fieldLink RX1 56 "PaperMachine$Cutter" "bestSum" "I", Cond.fieldLink RX1 9 "PaperMachine$Cutter" "best" "[I", Cond.methodLink RX1 59 yJ7_fill_53178, Cond.static yJ7_fill_53178, Cond.initialized RJ7, Cond.code yJ7_fill_53178 cJ7_fill_53178 4 none, Cond.methodLink RX1 65 yX1_search, Cond.static yX1_search, Cond.code yX1_search cX1_search 7 none, Cond.fieldLink RX1 15 "PaperMachine$Cutter" "trial" "[I", Cond.methodLink RX1 69 yX1_keepIfGreater, Cond.instanceMethod yX1_keepIfGreater, Cond.selects RX1 yX1_keepIfGreater yX1_keepIfGreater, Cond.code yX1_keepIfGreater cX1_keepIfGreater 2 none, Cond.methodLink RX1 73 arraycopyName, Cond.native arraycopyName, Cond.static arraycopyName, Cond.initialized "java/lang/System"]
def wsL_pass_r6 : List Cond := [Cond.methodLink RX4 252 yX4_quotient, Cond.static yX4_quotient, Cond.code yX4_quotient cX4_quotient 2 (some .int), Cond.methodLink RX4 255 yX2_writeTrim, Cond.instanceMethod yX2_writeTrim, Cond.selects RX2 yX2_writeTrim yX2_writeTrim, Cond.code yX2_writeTrim cX2_writeTrim 2 none, Cond.fieldLink RX2 43 "PaperMachine$HourBook" "trimSum" "J", Cond.fieldLink RX2 46 "PaperMachine$HourBook" "paperHours" "I", Cond.methodLink RX4 259 yX3_takeOff, Cond.instanceMethod yX3_takeOff, Cond.selects RX3 yX3_takeOff yX3_takeOff, Cond.code yX3_takeOff cX3_takeOff 4 (some .int), Cond.fieldLink RX3 18 "PaperMachine$OrderBook" "rollsCut" "[I", Cond.fieldLink RX3 21 "PaperMachine$OrderBook" "lacking" "[I"]
def wsL_pass : List Cond := .codeWith yL_pass cL_pass 4 (some .int) [(0, 9, 12, 13), (0, 9, 15, 15)] :: ((wsL_pass_r1 ++ (wsL_pass_r2 ++ (wsL_pass_r3 ++ (wsL_pass_r4 ++ (wsL_pass_r5 ++ wsL_pass_r6))))) ++ wsX40 ++ wsX20 ++ wsX10 ++ wsX00 ++ wsX30 ++ (vx_atM "java/lang/ArrayIndexOutOfBoundsException" ["java/lang/IndexOutOfBoundsException", "java/lang/RuntimeException", "java/lang/Exception"]).filter goodWord ++ (vx_atS RX4 67 "java/lang/IllegalArgumentException" ["java/lang/RuntimeException", "java/lang/Exception"]).filter goodWord ++ (vx_atS RX4 77 "java/lang/IllegalStateException" ["java/lang/RuntimeException", "java/lang/Exception"]).filter goodWord ++ (vx_atM "java/lang/ArithmeticException" ["java/lang/RuntimeException", "java/lang/Exception"]).filter goodWord)
def wsL_made : List Cond := .codeWith yL_made cL_made 4 (some .int) [(0, 9, 12, 23)] :: ([.classLink RL 23 "java/lang/IndexOutOfBoundsException", .methodLink RL 73 yX4_made, .instanceMethod yX4_made, .selects RX4 yX4_made yX4_made, .initialized RX4, .code yX4_made cX4_made 2 (some .char), .classLink RX4 89 "java/lang/IndexOutOfBoundsException", .initialized "java/lang/IndexOutOfBoundsException", .fieldLink RX4 48 "PaperMachine" "hourBook" "LPaperMachine$HourBook;", .fieldLink RX4 222 "PaperMachine$HourBook" "kinds" "[C", .methodLink RX4 219 yX2_has, .instanceMethod yX2_has, .selects RX2 yX2_has yX2_has, .initialized RX2, .code yX2_has cX2_has 2 (some .boolean), .fieldLink RX2 25 "PaperMachine$HourBook" "count" "I"] ++ wsX40 ++ wsX20 ++ (vx_atM "java/lang/ArrayIndexOutOfBoundsException" ["java/lang/IndexOutOfBoundsException", "java/lang/RuntimeException", "java/lang/Exception"]).filter goodWord ++ (vx_atS RX4 93 "java/lang/IndexOutOfBoundsException" ["java/lang/RuntimeException", "java/lang/Exception"]).filter goodWord)
def wsL_paperShare : List Cond := .codeWith yL_paperShare cL_paperShare 3 (some .int) [(0, 8, 11, 81)] :: ([.classLink RL 81 "java/lang/ArithmeticException", .methodLink RL 77 yX4_paperShare, .instanceMethod yX4_paperShare, .selects RX4 yX4_paperShare yX4_paperShare, .initialized RX4, .code yX4_paperShare cX4_paperShare 1 (some .float), .classLink RX4 232 "java/lang/ArithmeticException", .initialized "java/lang/ArithmeticException", .fieldLink RX4 48 "PaperMachine" "hourBook" "LPaperMachine$HourBook;", .fieldLink RX4 229 "PaperMachine$HourBook" "massSum" "J", .fieldLink RX4 213 "PaperMachine$HourBook" "paperSum" "J"] ++ wsX40 ++ wsX20 ++ (vx_atM "java/lang/ArrayIndexOutOfBoundsException" ["java/lang/IndexOutOfBoundsException", "java/lang/RuntimeException", "java/lang/Exception"]).filter goodWord ++ (vx_atS RX4 236 "java/lang/ArithmeticException" ["java/lang/RuntimeException", "java/lang/Exception"]).filter goodWord)
def wsL_meanTrim : List Cond := .codeWith yL_meanTrim cL_meanTrim 3 (some .int) [(0, 7, 10, 81)] :: ([.classLink RL 81 "java/lang/ArithmeticException", .methodLink RL 83 yX4_meanTrim, .instanceMethod yX4_meanTrim, .selects RX4 yX4_meanTrim yX4_meanTrim, .initialized RX4, .code yX4_meanTrim cX4_meanTrim 1 (some .double), .classLink RX4 232 "java/lang/ArithmeticException", .initialized "java/lang/ArithmeticException", .fieldLink RX4 48 "PaperMachine" "hourBook" "LPaperMachine$HourBook;", .fieldLink RX4 237 "PaperMachine$HourBook" "paperHours" "I", .fieldLink RX4 242 "PaperMachine$HourBook" "trimSum" "J"] ++ wsX40 ++ wsX20 ++ (vx_atM "java/lang/ArrayIndexOutOfBoundsException" ["java/lang/IndexOutOfBoundsException", "java/lang/RuntimeException", "java/lang/Exception"]).filter goodWord ++ (vx_atS RX4 236 "java/lang/ArithmeticException" ["java/lang/RuntimeException", "java/lang/Exception"]).filter goodWord)
def wsL_law0_r1 : List Cond := [Cond.classLink RL 8 RX4, Cond.instantiable RX4 13, Cond.initialized RX4, Cond.classLink RL 88 RX5, Cond.instantiable RX5 29, Cond.initialized RX5, Cond.arrayClass .long, Cond.arrayClass .double, Cond.methodLink RL 87 yX4_init, Cond.instanceMethod yX4_init, Cond.code yX4_init cX4_init 1 none, Cond.methodLink RX4 1 objectInit, Cond.instanceMethod objectInit, Cond.code objectInit ⟨#[0xb1]⟩ 1 none, Cond.arrayClass .int, Cond.fieldLink RX4 9 "PaperMachine" "weights" "[I", Cond.fieldLink RX4 13 "PaperMachine" "machineWidth" "I", Cond.fieldLink RX4 17 "PaperMachine" "machineGrade" "I", Cond.fieldLink RX4 20 "PaperMachine" "upward" "Z", Cond.classLink RX4 24 RX3, Cond.instantiable RX3 5, Cond.initialized RX3, Cond.fieldLink RX4 27 "PaperMachine" "orderBook" "LPaperMachine$OrderBook;", Cond.classLink RX4 31 RX1]
def wsL_law0_r2 : List Cond := [Cond.instantiable RX1 8, Cond.initialized RX1, Cond.fieldLink RX4 34 "PaperMachine" "cutter" "LPaperMachine$Cutter;", Cond.classLink RX4 38 RX0, Cond.instantiable RX0 3, Cond.initialized RX0, Cond.fieldLink RX4 41 "PaperMachine" "contract" "LPaperMachine$Contract;", Cond.classLink RX4 45 RX2, Cond.instantiable RX2 11, Cond.initialized RX2, Cond.fieldLink RX4 48 "PaperMachine" "hourBook" "LPaperMachine$HourBook;", Cond.fieldLink RX4 52 "PaperMachine" "share" "I", Cond.instanceMethod yX3_init, Cond.code yX3_init cX3_init 1 none, Cond.methodLink RX3 3 objectInit, Cond.fieldLink RX3 9 "PaperMachine$OrderBook" "grades" "[I", Cond.fieldLink RX3 15 "PaperMachine$OrderBook" "widths" "[I", Cond.fieldLink RX3 18 "PaperMachine$OrderBook" "rollsCut" "[I", Cond.fieldLink RX3 21 "PaperMachine$OrderBook" "lacking" "[I", Cond.instanceMethod yX1_init, Cond.code yX1_init cX1_init 1 none, Cond.methodLink RX1 3 objectInit, Cond.fieldLink RX1 9 "PaperMachine$Cutter" "best" "[I", Cond.fieldLink RX1 15 "PaperMachine$Cutter" "trial" "[I"]
def wsL_law0_r3 : List Cond := [Cond.fieldLink RX1 18 "PaperMachine$Cutter" "widths" "[I", Cond.fieldLink RX1 21 "PaperMachine$Cutter" "mostRolls" "[I", Cond.fieldLink RX1 24 "PaperMachine$Cutter" "widestFrom" "[I", Cond.fieldLink RX1 27 "PaperMachine$Cutter" "fewest" "[I", Cond.instanceMethod yX0_init, Cond.code yX0_init cX0_init 1 none, Cond.methodLink RX0 1 objectInit, Cond.fieldLink RX0 7 "PaperMachine$Contract" "limit" "I", Cond.fieldLink RX0 13 "PaperMachine$Contract" "firstPrice" "I", Cond.fieldLink RX0 16 "PaperMachine$Contract" "secondPrice" "I", Cond.instanceMethod yX2_init, Cond.code yX2_init cX2_init 1 none, Cond.methodLink RX2 3 objectInit, Cond.arrayClass .char, Cond.fieldLink RX2 9 "PaperMachine$HourBook" "kinds" "[C", Cond.fieldLink RX2 15 "PaperMachine$HourBook" "freshIn" "[I", Cond.fieldLink RX2 19 "PaperMachine$HourBook" "paperOut" "[I", Cond.fieldLink RX2 22 "PaperMachine$HourBook" "lossOut" "[I", Cond.methodLink RL 90 yX5_init, Cond.instanceMethod yX5_init, Cond.code yX5_init cX5_init 1 none, Cond.methodLink RX5 1 objectInit, Cond.fieldLink RX5 9 "PaperMachineModel" "weight" "[I", Cond.fieldLink RX5 13 "PaperMachineModel" "width" "I"]
def wsL_law0_r4 : List Cond := [Cond.fieldLink RX5 17 "PaperMachineModel" "grade" "I", Cond.fieldLink RX5 20 "PaperMachineModel" "isUp" "Z", Cond.fieldLink RX5 24 "PaperMachineModel" "orderGrade" "[I", Cond.fieldLink RX5 27 "PaperMachineModel" "orderWidth" "[I", Cond.fieldLink RX5 30 "PaperMachineModel" "lacks" "[I", Cond.fieldLink RX5 33 "PaperMachineModel" "cut" "[I", Cond.fieldLink RX5 36 "PaperMachineModel" "share" "I", Cond.fieldLink RX5 39 "PaperMachineModel" "limit" "I", Cond.fieldLink RX5 42 "PaperMachineModel" "firstPrice" "I", Cond.fieldLink RX5 45 "PaperMachineModel" "secondPrice" "I", Cond.fieldLink RX5 48 "PaperMachineModel" "made" "[C", Cond.fieldLink RX5 52 "PaperMachineModel" "trial" "[I", Cond.fieldLink RX5 55 "PaperMachineModel" "inCut" "[I", Cond.methodLink RL 91 yL_addGrade, Cond.static yL_addGrade, Cond.initialized RL, Cond.codeWith yL_addGrade cL_addGrade 4 (some .int) [(0, 9, 12, 13), (0, 9, 15, 15)], Cond.classLink RL 13 "java/lang/IllegalArgumentException", Cond.classLink RL 15 "java/lang/IllegalStateException", Cond.methodLink RL 7 yX4_addGrade, Cond.instanceMethod yX4_addGrade, Cond.selects RX4 yX4_addGrade yX4_addGrade, Cond.code yX4_addGrade cX4_addGrade 3 (some .int), Cond.classLink RX4 63 "java/lang/IllegalArgumentException"]
def wsL_law0_r5 : List Cond := [Cond.initialized "java/lang/IllegalArgumentException", Cond.classLink RX4 73 "java/lang/IllegalStateException", Cond.initialized "java/lang/IllegalStateException", Cond.fieldLink RX4 70 "PaperMachine" "gradeCount" "I", Cond.methodLink RX4 55 yX4_isWithin, Cond.static yX4_isWithin, Cond.code yX4_isWithin cX4_isWithin 3 (some .boolean), Cond.methodLink RX4 59 yX4_isWeightTaken, Cond.instanceMethod yX4_isWeightTaken, Cond.selects RX4 yX4_isWeightTaken yX4_isWeightTaken, Cond.code yX4_isWeightTaken cX4_isWeightTaken 3 (some .boolean), Cond.methodLink RL 96 yX5_addGrade, Cond.instanceMethod yX5_addGrade, Cond.selects RX5 yX5_addGrade yX5_addGrade, Cond.code yX5_addGrade cX5_addGrade 2 (some .int), Cond.fieldLink RX5 61 "PaperMachineModel" "grades" "I", Cond.methodLink RX5 64 yX5_in, Cond.static yX5_in, Cond.code yX5_in cX5_in 3 (some .boolean), Cond.methodLink RX5 71 yX5_hasWeight, Cond.instanceMethod yX5_hasWeight, Cond.selects RX5 yX5_hasWeight yX5_hasWeight, Cond.code yX5_hasWeight cX5_hasWeight 4 (some .boolean), Cond.methodLink RX5 75 yX5_goesOn]
def wsL_law0_r6 : List Cond := [Cond.instanceMethod yX5_goesOn, Cond.selects RX5 yX5_goesOn yX5_goesOn, Cond.code yX5_goesOn cX5_goesOn 2 (some .boolean), Cond.fieldLink RX5 58 "PaperMachineModel" "thrown" "I", Cond.methodLink RL 97 yX5_thrown, Cond.instanceMethod yX5_thrown, Cond.selects RX5 yX5_thrown yX5_thrown, Cond.code yX5_thrown cX5_thrown 1 (some .int), Cond.methodLink RL 100 yL_setWidth, Cond.static yL_setWidth, Cond.codeWith yL_setWidth cL_setWidth 4 (some .int) [(0, 9, 12, 13), (0, 9, 15, 15)], Cond.methodLink RL 17 yX4_setWidth, Cond.instanceMethod yX4_setWidth, Cond.selects RX4 yX4_setWidth yX4_setWidth, Cond.code yX4_setWidth cX4_setWidth 3 (some .int), Cond.methodLink RX4 80 yX3_widestOpen, Cond.instanceMethod yX3_widestOpen, Cond.selects RX3 yX3_widestOpen yX3_widestOpen, Cond.code yX3_widestOpen cX3_widestOpen 3 (some .int), Cond.fieldLink RX3 24 "PaperMachine$OrderBook" "count" "I", Cond.methodLink RX3 32 Lib.Math.max.name, Cond.static Lib.Math.max.name, Cond.initialized "java/lang/Math", Cond.code Lib.Math.max.name Lib.Math.max.code 2 (some .int)]
def wsL_law0_r7 : List Cond := [Cond.methodLink RL 102 yX5_setWidth, Cond.instanceMethod yX5_setWidth, Cond.selects RX5 yX5_setWidth yX5_setWidth, Cond.code yX5_setWidth cX5_setWidth 4 (some .int), Cond.fieldLink RX5 68 "PaperMachineModel" "orders" "I", Cond.methodLink RL 103 yL_change, Cond.static yL_change, Cond.codeWith yL_change cL_change 4 (some .int) [(0, 9, 12, 23), (0, 9, 15, 13), (0, 9, 18, 15)], Cond.classLink RL 23 "java/lang/IndexOutOfBoundsException", Cond.methodLink RL 20 yX4_change, Cond.instanceMethod yX4_change, Cond.selects RX4 yX4_change yX4_change, Cond.code yX4_change cX4_change 4 (some .int), Cond.classLink RX4 89 "java/lang/IndexOutOfBoundsException", Cond.initialized "java/lang/IndexOutOfBoundsException", Cond.fieldLink RX4 96 "PaperMachine" "changeHours" "I", Cond.methodLink RX4 101 Lib.Math.abs.name, Cond.static Lib.Math.abs.name, Cond.code Lib.Math.abs.name Lib.Math.abs.code 1 (some .int), Cond.methodLink RX4 86 yX4_isGrade, Cond.instanceMethod yX4_isGrade, Cond.selects RX4 yX4_isGrade yX4_isGrade, Cond.code yX4_isGrade cX4_isGrade 2 (some .boolean), Cond.methodLink RL 105 yX5_change]
def wsL_law0_r8 : List Cond := [Cond.instanceMethod yX5_change, Cond.selects RX5 yX5_change yX5_change, Cond.code yX5_change cX5_change 3 (some .int), Cond.fieldLink RX5 81 "PaperMachineModel" "changing" "I", Cond.methodLink RX5 78 yX5_isGrade, Cond.instanceMethod yX5_isGrade, Cond.selects RX5 yX5_isGrade yX5_isGrade, Cond.code yX5_isGrade cX5_isGrade 2 (some .boolean), Cond.methodLink RL 106 yL_grade, Cond.static yL_grade, Cond.codeWith yL_grade cL_grade 3 (some .int) [(0, 8, 11, 29)], Cond.classLink RL 29 "java/util/NoSuchElementException", Cond.methodLink RL 25 yX4_grade, Cond.instanceMethod yX4_grade, Cond.selects RX4 yX4_grade yX4_grade, Cond.code yX4_grade cX4_grade 1 (some .int), Cond.classLink RX4 107 "java/util/NoSuchElementException", Cond.initialized "java/util/NoSuchElementException", Cond.methodLink RL 109 yX5_grade, Cond.instanceMethod yX5_grade, Cond.selects RX5 yX5_grade yX5_grade, Cond.code yX5_grade cX5_grade 1 (some .int), Cond.methodLink RL 110 yX4_changing, Cond.instanceMethod yX4_changing]
def wsL_law0_r9 : List Cond := [Cond.selects RX4 yX4_changing yX4_changing, Cond.code yX4_changing cX4_changing 1 (some .int), Cond.methodLink RL 113 yX5_changing, Cond.instanceMethod yX5_changing, Cond.selects RX5 yX5_changing yX5_changing, Cond.code yX5_changing cX5_changing 1 (some .int), Cond.methodLink RL 114 yL_next, Cond.static yL_next, Cond.codeWith yL_next cL_next 3 (some .int) [(0, 8, 11, 29)], Cond.methodLink RL 31 yX4_next, Cond.instanceMethod yX4_next, Cond.selects RX4 yX4_next yX4_next, Cond.code yX4_next cX4_next 2 (some .int), Cond.methodLink RX4 112 yX4_nearestWaiting, Cond.instanceMethod yX4_nearestWaiting, Cond.selects RX4 yX4_nearestWaiting yX4_nearestWaiting, Cond.code yX4_nearestWaiting cX4_nearestWaiting 8 (some .int), Cond.methodLink RX4 174 yX3_rollsLacking, Cond.instanceMethod yX3_rollsLacking, Cond.selects RX3 yX3_rollsLacking yX3_rollsLacking, Cond.code yX3_rollsLacking cX3_rollsLacking 4 (some .int), Cond.methodLink RL 116 yX5_next, Cond.instanceMethod yX5_next, Cond.selects RX5 yX5_next yX5_next]
def wsL_law0_r10 : List Cond := [Cond.code yX5_next cX5_next 2 (some .int), Cond.methodLink RX5 87 yX5_nextFrom, Cond.instanceMethod yX5_nextFrom, Cond.selects RX5 yX5_nextFrom yX5_nextFrom, Cond.code yX5_nextFrom cX5_nextFrom 7 (some .int), Cond.methodLink RX5 84 yX5_hasOrders, Cond.instanceMethod yX5_hasOrders, Cond.selects RX5 yX5_hasOrders yX5_hasOrders, Cond.code yX5_hasOrders cX5_hasOrders 4 (some .boolean), Cond.methodLink RL 117 yL_mass, Cond.static yL_mass, Cond.codeWith yL_mass cL_mass 4 (some .int) [(0, 9, 12, 23)], Cond.methodLink RL 34 yX4_mass, Cond.instanceMethod yX4_mass, Cond.selects RX4 yX4_mass yX4_mass, Cond.code yX4_mass cX4_mass 2 (some .int), Cond.methodLink RX4 118 yX4_massOfAnHour, Cond.instanceMethod yX4_massOfAnHour, Cond.selects RX4 yX4_massOfAnHour yX4_massOfAnHour, Cond.code yX4_massOfAnHour cX4_massOfAnHour 2 (some .int), Cond.methodLink RL 119 yX5_mass, Cond.instanceMethod yX5_mass, Cond.selects RX5 yX5_mass yX5_mass, Cond.code yX5_mass cX5_mass 2 (some .int)]
def wsL_law0_r11 : List Cond := [Cond.methodLink RX5 91 yX5_massOf, Cond.instanceMethod yX5_massOf, Cond.selects RX5 yX5_massOf yX5_massOf, Cond.code yX5_massOf cX5_massOf 2 (some .int), Cond.methodLink RL 120 yL_order, Cond.static yL_order, Cond.codeWith yL_order cL_order 6 (some .int) [(0, 12, 15, 23), (0, 12, 19, 13), (0, 12, 23, 41), (0, 12, 27, 15)], Cond.classLink RL 41 "java/lang/UnsupportedOperationException", Cond.methodLink RL 37 yX4_order, Cond.instanceMethod yX4_order, Cond.selects RX4 yX4_order yX4_order, Cond.code yX4_order cX4_order 4 (some .int), Cond.classLink RX4 123 "java/lang/UnsupportedOperationException", Cond.initialized "java/lang/UnsupportedOperationException", Cond.methodLink RX4 128 yX3_isFull, Cond.instanceMethod yX3_isFull, Cond.selects RX3 yX3_isFull yX3_isFull, Cond.code yX3_isFull cX3_isFull 1 (some .boolean), Cond.methodLink RX4 134 yX3_write, Cond.instanceMethod yX3_write, Cond.selects RX3 yX3_write yX3_write, Cond.code yX3_write cX3_write 5 (some .int), Cond.methodLink RX3 28 yX3_isFull, Cond.methodLink RL 123 yX5_order]
def wsL_law0_r12 : List Cond := [Cond.instanceMethod yX5_order, Cond.selects RX5 yX5_order yX5_order, Cond.code yX5_order cX5_order 5 (some .int), Cond.methodLink RL 124 yL_cancel, Cond.static yL_cancel, Cond.codeWith yL_cancel cL_cancel 4 (some .int) [(0, 9, 12, 23), (0, 9, 15, 15)], Cond.methodLink RL 43 yX4_cancel, Cond.instanceMethod yX4_cancel, Cond.selects RX4 yX4_cancel yX4_cancel, Cond.code yX4_cancel cX4_cancel 3 (some .int), Cond.fieldLink RX4 143 "PaperMachine$OrderBook" "lacking" "[I", Cond.methodLink RX4 138 yX3_has, Cond.instanceMethod yX3_has, Cond.selects RX3 yX3_has yX3_has, Cond.code yX3_has cX3_has 2 (some .boolean), Cond.methodLink RL 126 yX5_cancel, Cond.instanceMethod yX5_cancel, Cond.selects RX5 yX5_cancel yX5_cancel, Cond.code yX5_cancel cX5_cancel 3 (some .int), Cond.methodLink RX5 95 yX5_isOrder, Cond.instanceMethod yX5_isOrder, Cond.selects RX5 yX5_isOrder yX5_isOrder, Cond.code yX5_isOrder cX5_isOrder 2 (some .boolean), Cond.methodLink RL 127 yL_cut]
def wsL_law0_r13 : List Cond := [Cond.static yL_cut, Cond.codeWith yL_cut cL_cut 4 (some .int) [(0, 9, 12, 23)], Cond.methodLink RL 46 yX4_cut, Cond.instanceMethod yX4_cut, Cond.selects RX4 yX4_cut yX4_cut, Cond.code yX4_cut cX4_cut 2 (some .int), Cond.fieldLink RX4 148 "PaperMachine$OrderBook" "rollsCut" "[I", Cond.methodLink RL 129 yX5_cut, Cond.instanceMethod yX5_cut, Cond.selects RX5 yX5_cut yX5_cut, Cond.code yX5_cut cX5_cut 2 (some .int), Cond.methodLink RL 130 yL_lacks, Cond.static yL_lacks, Cond.codeWith yL_lacks cL_lacks 4 (some .int) [(0, 9, 12, 23)], Cond.methodLink RL 49 yX4_lacks, Cond.instanceMethod yX4_lacks, Cond.selects RX4 yX4_lacks yX4_lacks, Cond.code yX4_lacks cX4_lacks 2 (some .int), Cond.methodLink RL 132 yX5_lacks, Cond.instanceMethod yX5_lacks, Cond.selects RX5 yX5_lacks yX5_lacks, Cond.code yX5_lacks cX5_lacks 2 (some .int), Cond.methodLink RL 133 yL_trim, Cond.static yL_trim]
def wsL_law0_r14 : List Cond := [Cond.codeWith yL_trim cL_trim 4 (some .int) [(0, 9, 12, 23)], Cond.methodLink RL 52 yX4_trim, Cond.instanceMethod yX4_trim, Cond.selects RX4 yX4_trim yX4_trim, Cond.code yX4_trim cX4_trim 2 (some .int), Cond.methodLink RX4 151 yX1_load, Cond.instanceMethod yX1_load, Cond.selects RX1 yX1_load yX1_load, Cond.code yX1_load cX1_load 7 none, Cond.methodLink RX1 30 Lib.Math.min.name, Cond.static Lib.Math.min.name, Cond.code Lib.Math.min.name Lib.Math.min.code 2 (some .int), Cond.methodLink RX1 36 Lib.Math.max.name, Cond.fieldLink RX1 39 "PaperMachine$Cutter" "room" "I", Cond.fieldLink RX1 49 "PaperMachine$OrderBook" "grades" "[I", Cond.fieldLink RX1 52 "PaperMachine$OrderBook" "widths" "[I", Cond.fieldLink RX1 53 "PaperMachine$OrderBook" "lacking" "[I", Cond.methodLink RX1 43 yX3_has, Cond.methodLink RX4 155 yX1_sumBySearch, Cond.instanceMethod yX1_sumBySearch, Cond.selects RX1 yX1_sumBySearch yX1_sumBySearch, Cond.code yX1_sumBySearch cX1_sumBySearch 1 (some .int), Cond.fieldLink RX1 56 "PaperMachine$Cutter" "bestSum" "I", Cond.methodLink RX1 59 yJ7_fill_53178]
def wsL_law0_r15 : List Cond := [Cond.static yJ7_fill_53178, Cond.initialized RJ7, Cond.code yJ7_fill_53178 cJ7_fill_53178 4 none, Cond.methodLink RX1 65 yX1_search, Cond.static yX1_search, Cond.code yX1_search cX1_search 7 none, Cond.methodLink RX1 69 yX1_keepIfGreater, Cond.instanceMethod yX1_keepIfGreater, Cond.selects RX1 yX1_keepIfGreater yX1_keepIfGreater, Cond.code yX1_keepIfGreater cX1_keepIfGreater 2 none, Cond.methodLink RX1 73 arraycopyName, Cond.native arraycopyName, Cond.static arraycopyName, Cond.initialized "java/lang/System", Cond.methodLink RL 135 yX5_trim, Cond.instanceMethod yX5_trim, Cond.selects RX5 yX5_trim yX5_trim, Cond.code yX5_trim cX5_trim 2 (some .int), Cond.methodLink RX5 105 yX5_looks, Cond.instanceMethod yX5_looks, Cond.selects RX5 yX5_looks yX5_looks, Cond.code yX5_looks cX5_looks 2 (some .int), Cond.fieldLink RX5 98 "PaperMachineModel" "best" "I", Cond.methodLink RX5 101 yX5_tries]
def wsL_law0_r16 : List Cond := [Cond.instanceMethod yX5_tries, Cond.selects RX5 yX5_tries yX5_tries, Cond.code yX5_tries cX5_tries 7 none, Cond.methodLink RL 136 yL_trimByTable, Cond.static yL_trimByTable, Cond.codeWith yL_trimByTable cL_trimByTable 4 (some .int) [(0, 9, 12, 23)], Cond.methodLink RL 55 yX4_trimByTable, Cond.instanceMethod yX4_trimByTable, Cond.selects RX4 yX4_trimByTable yX4_trimByTable, Cond.code yX4_trimByTable cX4_trimByTable 2 (some .int), Cond.methodLink RX4 158 yX1_sumByTable, Cond.instanceMethod yX1_sumByTable, Cond.selects RX1 yX1_sumByTable yX1_sumByTable, Cond.code yX1_sumByTable cX1_sumByTable 3 (some .int), Cond.methodLink RX1 79 yX1_addRollToTable, Cond.instanceMethod yX1_addRollToTable, Cond.selects RX1 yX1_addRollToTable yX1_addRollToTable, Cond.code yX1_addRollToTable cX1_addRollToTable 3 none, Cond.methodLink RL 138 yX5_trimByTable, Cond.instanceMethod yX5_trimByTable, Cond.selects RX5 yX5_trimByTable yX5_trimByTable, Cond.code yX5_trimByTable cX5_trimByTable 2 (some .int), Cond.methodLink RX5 108 yX5_trim, Cond.methodLink RL 139 yL_inCut]
def wsL_law0_r17 : List Cond := [Cond.static yL_inCut, Cond.codeWith yL_inCut cL_inCut 4 (some .int) [(0, 9, 12, 23)], Cond.methodLink RL 58 yX4_inCut, Cond.instanceMethod yX4_inCut, Cond.selects RX4 yX4_inCut yX4_inCut, Cond.code yX4_inCut cX4_inCut 2 (some .int), Cond.fieldLink RX4 161 "PaperMachine$OrderBook" "grades" "[I", Cond.fieldLink RX4 164 "PaperMachine$Cutter" "best" "[I", Cond.methodLink RL 141 yX5_inCut, Cond.instanceMethod yX5_inCut, Cond.selects RX5 yX5_inCut yX5_inCut, Cond.code yX5_inCut cX5_inCut 3 (some .int), Cond.methodLink RL 142 yL_leastHours, Cond.static yL_leastHours, Cond.codeWith yL_leastHours cL_leastHours 4 (some .int) [(0, 9, 12, 23)], Cond.methodLink RL 61 yX4_leastHours, Cond.instanceMethod yX4_leastHours, Cond.selects RX4 yX4_leastHours yX4_leastHours, Cond.code yX4_leastHours cX4_leastHours 4 (some .int), Cond.methodLink RX4 177 Lib.Math.max.name, Cond.methodLink RX4 167 yX3_widthLacking, Cond.instanceMethod yX3_widthLacking, Cond.selects RX3 yX3_widthLacking yX3_widthLacking, Cond.code yX3_widthLacking cX3_widthLacking 4 (some .int)]
def wsL_law0_r18 : List Cond := [Cond.methodLink RX4 170 yX4_quotientUp, Cond.static yX4_quotientUp, Cond.code yX4_quotientUp cX4_quotientUp 2 (some .int), Cond.methodLink RL 144 yX5_leastHours, Cond.instanceMethod yX5_leastHours, Cond.selects RX5 yX5_leastHours yX5_leastHours, Cond.code yX5_leastHours cX5_leastHours 6 (some .int), Cond.methodLink RL 145 yL_setShare, Cond.static yL_setShare, Cond.codeWith yL_setShare cL_setShare 4 (some .int) [(0, 9, 12, 13)], Cond.methodLink RL 64 yX4_setShare, Cond.instanceMethod yX4_setShare, Cond.selects RX4 yX4_setShare yX4_setShare, Cond.code yX4_setShare cX4_setShare 3 (some .int), Cond.methodLink RL 147 yX5_setShare, Cond.instanceMethod yX5_setShare, Cond.selects RX5 yX5_setShare yX5_setShare, Cond.code yX5_setShare cX5_setShare 3 (some .int), Cond.methodLink RL 148 yL_setContract, Cond.static yL_setContract, Cond.codeWith yL_setContract cL_setContract 6 (some .int) [(0, 12, 15, 13)], Cond.methodLink RL 67 yX4_setContract, Cond.instanceMethod yX4_setContract, Cond.selects RX4 yX4_setContract yX4_setContract]
def wsL_law0_r19 : List Cond := [Cond.code yX4_setContract cX4_setContract 5 (some .int), Cond.fieldLink RX4 184 "PaperMachine$Contract" "limit" "I", Cond.fieldLink RX4 187 "PaperMachine$Contract" "firstPrice" "I", Cond.fieldLink RX4 190 "PaperMachine$Contract" "secondPrice" "I", Cond.methodLink RL 150 yX5_setContract, Cond.instanceMethod yX5_setContract, Cond.selects RX5 yX5_setContract yX5_setContract, Cond.code yX5_setContract cX5_setContract 5 (some .int), Cond.methodLink RL 151 yL_pass, Cond.static yL_pass, Cond.codeWith yL_pass cL_pass 4 (some .int) [(0, 9, 12, 13), (0, 9, 15, 15)], Cond.methodLink RL 70 yX4_pass, Cond.instanceMethod yX4_pass, Cond.selects RX4 yX4_pass yX4_pass, Cond.code yX4_pass cX4_pass 4 (some .int), Cond.fieldLink RX4 195 "PaperMachine$HourBook" "count" "I", Cond.methodLink RX4 200 yX4_passAnHour, Cond.instanceMethod yX4_passAnHour, Cond.selects RX4 yX4_passAnHour yX4_passAnHour, Cond.code yX4_passAnHour cX4_passAnHour 4 (some .int), Cond.methodLink RX4 245 yX2_writeNothing, Cond.instanceMethod yX2_writeNothing, Cond.selects RX2 yX2_writeNothing yX2_writeNothing, Cond.code yX2_writeNothing cX2_writeNothing 1 none]
def wsL_law0_r20 : List Cond := [Cond.methodLink RX2 29 yX2_writeMade, Cond.instanceMethod yX2_writeMade, Cond.selects RX2 yX2_writeMade yX2_writeMade, Cond.code yX2_writeMade cX2_writeMade 5 none, Cond.fieldLink RX2 25 "PaperMachine$HourBook" "count" "I", Cond.fieldLink RX2 33 "PaperMachine$HourBook" "freshSum" "J", Cond.fieldLink RX2 37 "PaperMachine$HourBook" "paperSum" "J", Cond.fieldLink RX2 40 "PaperMachine$HourBook" "lossSum" "J", Cond.methodLink RX4 248 yX4_make, Cond.instanceMethod yX4_make, Cond.selects RX4 yX4_make yX4_make, Cond.code yX4_make cX4_make 7 none, Cond.fieldLink RX4 203 "PaperMachine" "brokeKept" "I", Cond.methodLink RX4 263 Lib.Math.min.name, Cond.fieldLink RX4 229 "PaperMachine$HourBook" "massSum" "J", Cond.fieldLink RX4 226 "PaperMachine" "steamSum" "J", Cond.methodLink RX4 266 yX2_writeMade, Cond.methodLink RX4 270 yX0_cost, Cond.instanceMethod yX0_cost, Cond.selects RX0 yX0_cost yX0_cost, Cond.code yX0_cost cX0_cost 3 (some .long), Cond.methodLink RX0 19 Lib.Math.min.name, Cond.methodLink RX4 252 yX4_quotient, Cond.static yX4_quotient]
def wsL_law0_r21 : List Cond := [Cond.code yX4_quotient cX4_quotient 2 (some .int), Cond.methodLink RX4 255 yX2_writeTrim, Cond.instanceMethod yX2_writeTrim, Cond.selects RX2 yX2_writeTrim yX2_writeTrim, Cond.code yX2_writeTrim cX2_writeTrim 2 none, Cond.fieldLink RX2 43 "PaperMachine$HourBook" "trimSum" "J", Cond.fieldLink RX2 46 "PaperMachine$HourBook" "paperHours" "I", Cond.methodLink RX4 259 yX3_takeOff, Cond.instanceMethod yX3_takeOff, Cond.selects RX3 yX3_takeOff yX3_takeOff, Cond.code yX3_takeOff cX3_takeOff 4 (some .int), Cond.methodLink RL 153 yX5_pass, Cond.instanceMethod yX5_pass, Cond.selects RX5 yX5_pass yX5_pass, Cond.code yX5_pass cX5_pass 4 (some .int), Cond.fieldLink RX5 130 "PaperMachineModel" "hours" "I", Cond.methodLink RX5 147 yX5_passesOne, Cond.instanceMethod yX5_passesOne, Cond.selects RX5 yX5_passesOne yX5_passesOne, Cond.code yX5_passesOne cX5_passesOne 2 (some .int), Cond.methodLink RX5 139 yX5_makes, Cond.instanceMethod yX5_makes, Cond.selects RX5 yX5_makes yX5_makes, Cond.code yX5_makes cX5_makes 7 none]
def wsL_law0_r22 : List Cond := [Cond.fieldLink RX5 111 "PaperMachineModel" "broke" "I", Cond.fieldLink RX5 114 "PaperMachineModel" "fresh" "J", Cond.fieldLink RX5 118 "PaperMachineModel" "paper" "J", Cond.fieldLink RX5 121 "PaperMachineModel" "lost" "J", Cond.fieldLink RX5 124 "PaperMachineModel" "mass" "J", Cond.fieldLink RX5 127 "PaperMachineModel" "steam" "J", Cond.methodLink RX5 143 yX5_cuts, Cond.instanceMethod yX5_cuts, Cond.selects RX5 yX5_cuts yX5_cuts, Cond.code yX5_cuts cX5_cuts 4 (some .int), Cond.fieldLink RX5 133 "PaperMachineModel" "paperHours" "I", Cond.fieldLink RX5 136 "PaperMachineModel" "trims" "I", Cond.methodLink RL 154 yX4_hours, Cond.instanceMethod yX4_hours, Cond.selects RX4 yX4_hours yX4_hours, Cond.code yX4_hours cX4_hours 1 (some .int), Cond.methodLink RL 157 yX5_hours, Cond.instanceMethod yX5_hours, Cond.selects RX5 yX5_hours yX5_hours, Cond.code yX5_hours cX5_hours 1 (some .int), Cond.methodLink RL 158 yX4_broke, Cond.instanceMethod yX4_broke, Cond.selects RX4 yX4_broke yX4_broke, Cond.code yX4_broke cX4_broke 1 (some .int)]
def wsL_law0_r23 : List Cond := [Cond.methodLink RL 161 yX5_broke, Cond.instanceMethod yX5_broke, Cond.selects RX5 yX5_broke yX5_broke, Cond.code yX5_broke cX5_broke 1 (some .int), Cond.methodLink RL 162 yX4_brokeByHours, Cond.instanceMethod yX4_brokeByHours, Cond.selects RX4 yX4_brokeByHours yX4_brokeByHours, Cond.code yX4_brokeByHours cX4_brokeByHours 1 (some .int), Cond.methodLink RX4 206 yX2_fibreStillThere, Cond.instanceMethod yX2_fibreStillThere, Cond.selects RX2 yX2_fibreStillThere yX2_fibreStillThere, Cond.code yX2_fibreStillThere cX2_fibreStillThere 3 (some .int), Cond.methodLink RL 165 yX5_brokeByHours, Cond.instanceMethod yX5_brokeByHours, Cond.selects RX5 yX5_brokeByHours yX5_brokeByHours, Cond.code yX5_brokeByHours cX5_brokeByHours 1 (some .int), Cond.methodLink RL 166 yX4_fresh, Cond.instanceMethod yX4_fresh, Cond.selects RX4 yX4_fresh yX4_fresh, Cond.code yX4_fresh cX4_fresh 1 (some .long), Cond.fieldLink RX4 209 "PaperMachine$HourBook" "freshSum" "J", Cond.methodLink RL 170 yX5_fresh, Cond.instanceMethod yX5_fresh, Cond.selects RX5 yX5_fresh yX5_fresh]
def wsL_law0_r24 : List Cond := [Cond.code yX5_fresh cX5_fresh 1 (some .long), Cond.methodLink RL 171 yX4_paper, Cond.instanceMethod yX4_paper, Cond.selects RX4 yX4_paper yX4_paper, Cond.code yX4_paper cX4_paper 1 (some .long), Cond.fieldLink RX4 213 "PaperMachine$HourBook" "paperSum" "J", Cond.methodLink RL 174 yX5_paper, Cond.instanceMethod yX5_paper, Cond.selects RX5 yX5_paper yX5_paper, Cond.code yX5_paper cX5_paper 1 (some .long), Cond.methodLink RL 175 yX4_lost, Cond.instanceMethod yX4_lost, Cond.selects RX4 yX4_lost yX4_lost, Cond.code yX4_lost cX4_lost 1 (some .long), Cond.fieldLink RX4 216 "PaperMachine$HourBook" "lossSum" "J", Cond.methodLink RL 178 yX5_lost, Cond.instanceMethod yX5_lost, Cond.selects RX5 yX5_lost yX5_lost, Cond.code yX5_lost cX5_lost 1 (some .long), Cond.methodLink RL 179 yL_made, Cond.static yL_made, Cond.codeWith yL_made cL_made 4 (some .int) [(0, 9, 12, 23)], Cond.methodLink RL 73 yX4_made, Cond.instanceMethod yX4_made]
def wsL_law0_r25 : List Cond := [Cond.selects RX4 yX4_made yX4_made, Cond.code yX4_made cX4_made 2 (some .char), Cond.fieldLink RX4 222 "PaperMachine$HourBook" "kinds" "[C", Cond.methodLink RX4 219 yX2_has, Cond.instanceMethod yX2_has, Cond.selects RX2 yX2_has yX2_has, Cond.code yX2_has cX2_has 2 (some .boolean), Cond.methodLink RL 181 yX5_made, Cond.instanceMethod yX5_made, Cond.selects RX5 yX5_made yX5_made, Cond.code yX5_made cX5_made 2 (some .char), Cond.methodLink RL 182 yX4_steamCost, Cond.instanceMethod yX4_steamCost, Cond.selects RX4 yX4_steamCost yX4_steamCost, Cond.code yX4_steamCost cX4_steamCost 1 (some .long), Cond.methodLink RL 185 yX5_steamCost, Cond.instanceMethod yX5_steamCost, Cond.selects RX5 yX5_steamCost yX5_steamCost, Cond.code yX5_steamCost cX5_steamCost 1 (some .long), Cond.methodLink RL 186 yL_paperShare, Cond.static yL_paperShare, Cond.codeWith yL_paperShare cL_paperShare 3 (some .int) [(0, 8, 11, 81)], Cond.classLink RL 81 "java/lang/ArithmeticException", Cond.methodLink RL 77 yX4_paperShare]
def wsL_law0_r26 : List Cond := [Cond.instanceMethod yX4_paperShare, Cond.selects RX4 yX4_paperShare yX4_paperShare, Cond.code yX4_paperShare cX4_paperShare 1 (some .float), Cond.classLink RX4 232 "java/lang/ArithmeticException", Cond.initialized "java/lang/ArithmeticException", Cond.methodLink RL 189 yX5_paperShare, Cond.instanceMethod yX5_paperShare, Cond.selects RX5 yX5_paperShare yX5_paperShare, Cond.code yX5_paperShare cX5_paperShare 1 (some .float), Cond.methodLink RL 190 yL_meanTrim, Cond.static yL_meanTrim, Cond.codeWith yL_meanTrim cL_meanTrim 3 (some .int) [(0, 7, 10, 81)], Cond.methodLink RL 83 yX4_meanTrim, Cond.instanceMethod yX4_meanTrim, Cond.selects RX4 yX4_meanTrim yX4_meanTrim, Cond.code yX4_meanTrim cX4_meanTrim 1 (some .double), Cond.fieldLink RX4 237 "PaperMachine$HourBook" "paperHours" "I", Cond.fieldLink RX4 242 "PaperMachine$HourBook" "trimSum" "J", Cond.methodLink RL 192 yX5_meanTrim, Cond.instanceMethod yX5_meanTrim, Cond.selects RX5 yX5_meanTrim yX5_meanTrim, Cond.code yX5_meanTrim cX5_meanTrim 1 (some .double)]
def wsL_law0 : List Cond := (wsL_law0_r1 ++ (wsL_law0_r2 ++ (wsL_law0_r3 ++ (wsL_law0_r4 ++ (wsL_law0_r5 ++ (wsL_law0_r6 ++ (wsL_law0_r7 ++ (wsL_law0_r8 ++ (wsL_law0_r9 ++ (wsL_law0_r10 ++ (wsL_law0_r11 ++ (wsL_law0_r12 ++ (wsL_law0_r13 ++ (wsL_law0_r14 ++ (wsL_law0_r15 ++ (wsL_law0_r16 ++ (wsL_law0_r17 ++ (wsL_law0_r18 ++ (wsL_law0_r19 ++ (wsL_law0_r20 ++ (wsL_law0_r21 ++ (wsL_law0_r22 ++ (wsL_law0_r23 ++ (wsL_law0_r24 ++ (wsL_law0_r25 ++ wsL_law0_r26))))))))))))))))))))))))) ++ wsX40 ++ wsX50 ++ wsX30 ++ wsX10 ++ wsX00 ++ wsX20 ++ ([] : List Cond)
def wsL_law : List Cond := wsL_law0 ++ (vx_atM "java/lang/ArrayIndexOutOfBoundsException" ["java/lang/IndexOutOfBoundsException", "java/lang/RuntimeException", "java/lang/Exception"]).filter goodWord ++ (vx_atS RX4 67 "java/lang/IllegalArgumentException" ["java/lang/RuntimeException", "java/lang/Exception"]).filter goodWord ++ (vx_atS RX4 77 "java/lang/IllegalStateException" ["java/lang/RuntimeException", "java/lang/Exception"]).filter goodWord ++ (vx_atS RX4 93 "java/lang/IndexOutOfBoundsException" ["java/lang/RuntimeException", "java/lang/Exception"]).filter goodWord ++ (nx_atS RX4 111 "java/util/NoSuchElementException" ["java/lang/RuntimeException", "java/lang/Exception"]).filter goodWord ++ (vx_atS RX4 127 "java/lang/UnsupportedOperationException" ["java/lang/RuntimeException", "java/lang/Exception"]).filter goodWord ++ (vx_atM "java/lang/ArithmeticException" ["java/lang/RuntimeException", "java/lang/Exception"]).filter goodWord ++ (vx_atS RX4 236 "java/lang/ArithmeticException" ["java/lang/RuntimeException", "java/lang/Exception"]).filter goodWord
end
section
theorem sub_r {big : List Cond} (ws : List Cond) (ps : List Nat) (hp : ps.map (fun i => big[i]?) = ws.map some) : ∀ w ∈ ws, w ∈ big := by
  intro w hw
  have h1 : some w ∈ ps.map (fun i => big[i]?) := by rw [hp]; exact List.mem_map.mpr ⟨w, hw, rfl⟩
  obtain ⟨i, -, hi⟩ := List.mem_map.mp h1
  exact List.mem_of_getElem? hi
set_option maxRecDepth 100000 in
theorem wsL_law_in_r1 : ∀ w ∈ wsL_law0_r1, w ∈ lw_tbl := sub_r _ [42, 43, 22, 713, 714, 27, 975, 976, 44, 45, 46, 47, 48, 49, 78, 178, 180, 181, 183, 50, 51, 23, 184, 79] rfl
set_option maxRecDepth 100000 in
theorem wsL_law_in_r2 : ∀ w ∈ wsL_law0_r2, w ∈ lw_tbl := sub_r _ [80, 24, 185, 111, 112, 25, 186, 130, 131, 26, 187, 188, 53, 54, 55, 56, 59, 61, 63, 82, 83, 84, 85, 87] rfl
set_option maxRecDepth 100000 in
theorem wsL_law_in_r3 : ∀ w ∈ wsL_law0_r3, w ∈ lw_tbl := sub_r _ [88, 89, 90, 91, 114, 115, 116, 117, 119, 121, 133, 134, 135, 177, 136, 138, 139, 140, 715, 716, 717, 718, 721, 722] rfl
set_option maxRecDepth 100000 in
theorem wsL_law_in_r4 : ∀ w ∈ wsL_law0_r4, w ∈ lw_tbl := sub_r _ [723, 724, 727, 728, 729, 730, 731, 732, 733, 734, 736, 746, 747, 254, 255, 21, 256, 257, 258, 259, 260, 261, 262, 270] rfl
set_option maxRecDepth 100000 in
theorem wsL_law_in_r5 : ∀ w ∈ wsL_law0_r5, w ∈ lw_tbl := sub_r _ [31, 342, 32, 179, 263, 264, 265, 266, 268, 0, 269, 811, 812, 813, 814, 720, 815, 816, 817, 818, 820, 9, 821, 822] rfl
set_option maxRecDepth 100000 in
theorem wsL_law_in_r6 : ∀ w ∈ wsL_law0_r6, w ∈ lw_tbl := sub_r _ [824, 10, 825, 719, 807, 808, 809, 810, 358, 359, 360, 361, 362, 363, 364, 366, 367, 368, 369, 66, 370, 371, 33, 372] rfl
set_option maxRecDepth 100000 in
theorem wsL_law_in_r7 : ∀ w ∈ wsL_law0_r7, w ∈ lw_tbl := sub_r _ [826, 827, 828, 829, 726, 374, 375, 376, 377, 401, 402, 403, 404, 409, 34, 182, 424, 425, 426, 405, 407, 2, 408, 830] rfl
set_option maxRecDepth 100000 in
theorem wsL_law_in_r8 : ∀ w ∈ wsL_law0_r8, w ∈ lw_tbl := sub_r _ [831, 832, 833, 725, 834, 836, 11, 837, 427, 428, 429, 430, 431, 432, 433, 434, 435, 37, 838, 839, 840, 841, 218, 219] rfl
set_option maxRecDepth 100000 in
theorem wsL_law_in_r9 : ∀ w ∈ wsL_law0_r9, w ∈ lw_tbl := sub_r _ [220, 221, 842, 843, 844, 845, 451, 452, 453, 454, 455, 456, 457, 458, 460, 3, 461, 462, 463, 464, 465, 846, 847, 848] rfl
set_option maxRecDepth 100000 in
theorem wsL_law_in_r10 : ∀ w ∈ wsL_law0_r10, w ∈ lw_tbl := sub_r _ [849, 850, 852, 12, 853, 854, 856, 13, 857, 467, 468, 469, 470, 471, 472, 473, 474, 476, 4, 477, 858, 859, 860, 861] rfl
set_option maxRecDepth 100000 in
theorem wsL_law_in_r11 : ∀ w ∈ wsL_law0_r11, w ∈ lw_tbl := sub_r _ [862, 864, 14, 865, 478, 479, 480, 481, 482, 483, 484, 485, 487, 38, 503, 504, 505, 506, 508, 509, 510, 511, 512, 866] rfl
set_option maxRecDepth 100000 in
theorem wsL_law_in_r12 : ∀ w ∈ wsL_law0_r12, w ∈ lw_tbl := sub_r _ [867, 868, 869, 513, 514, 515, 516, 517, 518, 519, 65, 520, 521, 522, 523, 870, 871, 872, 873, 874, 876, 15, 877, 526] rfl
set_option maxRecDepth 100000 in
theorem wsL_law_in_r13 : ∀ w ∈ wsL_law0_r13, w ∈ lw_tbl := sub_r _ [527, 528, 529, 530, 531, 532, 62, 878, 879, 880, 881, 533, 534, 535, 536, 537, 538, 539, 882, 883, 884, 885, 540, 541] rfl
set_option maxRecDepth 100000 in
theorem wsL_law_in_r14 : ∀ w ∈ wsL_law0_r14, w ∈ lw_tbl := sub_r _ [542, 543, 544, 545, 546, 547, 548, 549, 550, 551, 552, 553, 554, 92, 57, 60, 64, 555, 556, 557, 558, 559, 93, 560] rfl
set_option maxRecDepth 100000 in
theorem wsL_law_in_r15 : ∀ w ∈ wsL_law0_r15, w ∈ lw_tbl := sub_r _ [561, 39, 562, 563, 564, 565, 566, 568, 5, 569, 570, 572, 571, 40, 886, 887, 888, 889, 890, 892, 16, 893, 745, 894] rfl
set_option maxRecDepth 100000 in
theorem wsL_law_in_r16 : ∀ w ∈ wsL_law0_r16, w ∈ lw_tbl := sub_r _ [896, 17, 897, 573, 574, 575, 576, 577, 578, 579, 580, 581, 582, 583, 584, 586, 6, 587, 898, 899, 900, 901, 902, 588] rfl
set_option maxRecDepth 100000 in
theorem wsL_law_in_r17 : ∀ w ∈ wsL_law0_r17, w ∈ lw_tbl := sub_r _ [589, 590, 591, 592, 593, 594, 58, 86, 903, 904, 905, 906, 595, 596, 597, 598, 599, 600, 601, 609, 602, 603, 604, 605] rfl
set_option maxRecDepth 100000 in
theorem wsL_law_in_r18 : ∀ w ∈ wsL_law0_r18, w ∈ lw_tbl := sub_r _ [606, 607, 608, 907, 908, 909, 910, 610, 611, 612, 613, 614, 615, 616, 911, 912, 913, 914, 618, 619, 620, 621, 622, 623] rfl
set_option maxRecDepth 100000 in
theorem wsL_law_in_r19 : ∀ w ∈ wsL_law0_r19, w ∈ lw_tbl := sub_r _ [624, 118, 120, 122, 915, 916, 917, 918, 626, 627, 628, 629, 630, 631, 632, 142, 635, 637, 7, 638, 639, 640, 641, 642] rfl
set_option maxRecDepth 100000 in
theorem wsL_law_in_r20 : ∀ w ∈ wsL_law0_r20, w ∈ lw_tbl := sub_r _ [643, 644, 645, 646, 141, 143, 145, 147, 647, 649, 8, 650, 189, 651, 149, 190, 652, 653, 654, 655, 656, 657, 658, 659] rfl
set_option maxRecDepth 100000 in
theorem wsL_law_in_r21 : ∀ w ∈ wsL_law0_r21, w ∈ lw_tbl := sub_r _ [660, 661, 662, 663, 664, 150, 152, 665, 666, 667, 668, 919, 920, 921, 922, 735, 923, 925, 18, 926, 927, 929, 19, 930] rfl
set_option maxRecDepth 100000 in
theorem wsL_law_in_r22 : ∀ w ∈ wsL_law0_r22, w ∈ lw_tbl := sub_r _ [737, 738, 739, 740, 742, 741, 931, 933, 20, 934, 743, 744, 222, 223, 224, 225, 935, 936, 937, 938, 226, 227, 228, 229] rfl
set_option maxRecDepth 100000 in
theorem wsL_law_in_r23 : ∀ w ∈ wsL_law0_r23, w ∈ lw_tbl := sub_r _ [939, 940, 941, 942, 230, 231, 232, 233, 234, 235, 236, 237, 943, 944, 945, 946, 238, 239, 240, 241, 144, 947, 948, 949] rfl
set_option maxRecDepth 100000 in
theorem wsL_law_in_r24 : ∀ w ∈ wsL_law0_r24, w ∈ lw_tbl := sub_r _ [950, 242, 243, 244, 245, 146, 951, 952, 953, 954, 246, 247, 248, 249, 148, 955, 956, 957, 958, 669, 670, 671, 672, 673] rfl
set_option maxRecDepth 100000 in
theorem wsL_law_in_r25 : ∀ w ∈ wsL_law0_r25, w ∈ lw_tbl := sub_r _ [674, 675, 137, 676, 677, 678, 679, 959, 960, 961, 962, 250, 251, 252, 253, 963, 964, 965, 966, 681, 682, 683, 684, 698] rfl
set_option maxRecDepth 100000 in
theorem wsL_law_in_r26 : ∀ w ∈ wsL_law0_r26, w ∈ lw_tbl := sub_r _ [699, 700, 701, 702, 41, 967, 968, 969, 970, 705, 706, 707, 708, 709, 710, 711, 153, 151, 971, 972, 973, 974] rfl
set_option maxRecDepth 100000 in
theorem wsL_law_in_wsX40 : ∀ w ∈ wsX40, w ∈ lw_tbl := sub_r _ [191, 193, 195, 197, 199, 201, 203, 205, 207, 209, 211, 213, 215] rfl
set_option maxRecDepth 100000 in
theorem wsL_law_in_wsX50 : ∀ w ∈ wsX50, w ∈ lw_tbl := sub_r _ [748, 750, 752, 754, 756, 758, 760, 762, 764, 766, 768, 770, 772, 774, 776, 778, 780, 782, 784, 786, 788, 790, 792, 794, 796, 798, 800, 802, 804] rfl
set_option maxRecDepth 100000 in
theorem wsL_law_in_wsX30 : ∀ w ∈ wsX30, w ∈ lw_tbl := sub_r _ [67, 69, 71, 73, 75] rfl
set_option maxRecDepth 100000 in
theorem wsL_law_in_wsX10 : ∀ w ∈ wsX10, w ∈ lw_tbl := sub_r _ [94, 96, 98, 100, 102, 104, 106, 108] rfl
set_option maxRecDepth 100000 in
theorem wsL_law_in_wsX00 : ∀ w ∈ wsX00, w ∈ lw_tbl := sub_r _ [123, 125, 127] rfl
set_option maxRecDepth 100000 in
theorem wsL_law_in_wsX20 : ∀ w ∈ wsX20, w ∈ lw_tbl := sub_r _ [154, 156, 158, 160, 162, 164, 166, 168, 170, 172, 174] rfl
theorem wsL_law_in0 : ∀ w ∈ wsL_law0, w ∈ lw_tbl := fun w => (fun h => (List.mem_append.mp h).elim ((fun h => (List.mem_append.mp h).elim ((fun h => (List.mem_append.mp h).elim ((fun h => (List.mem_append.mp h).elim ((fun h => (List.mem_append.mp h).elim ((fun h => (List.mem_append.mp h).elim ((fun h => (List.mem_append.mp h).elim ((fun h => (List.mem_append.mp h).elim (wsL_law_in_r1 w) ((fun h => (List.mem_append.mp h).elim (wsL_law_in_r2 w) ((fun h => (List.mem_append.mp h).elim (wsL_law_in_r3 w) ((fun h => (List.mem_append.mp h).elim (wsL_law_in_r4 w) ((fun h => (List.mem_append.mp h).elim (wsL_law_in_r5 w) ((fun h => (List.mem_append.mp h).elim (wsL_law_in_r6 w) ((fun h => (List.mem_append.mp h).elim (wsL_law_in_r7 w) ((fun h => (List.mem_append.mp h).elim (wsL_law_in_r8 w) ((fun h => (List.mem_append.mp h).elim (wsL_law_in_r9 w) ((fun h => (List.mem_append.mp h).elim (wsL_law_in_r10 w) ((fun h => (List.mem_append.mp h).elim (wsL_law_in_r11 w) ((fun h => (List.mem_append.mp h).elim (wsL_law_in_r12 w) ((fun h => (List.mem_append.mp h).elim (wsL_law_in_r13 w) ((fun h => (List.mem_append.mp h).elim (wsL_law_in_r14 w) ((fun h => (List.mem_append.mp h).elim (wsL_law_in_r15 w) ((fun h => (List.mem_append.mp h).elim (wsL_law_in_r16 w) ((fun h => (List.mem_append.mp h).elim (wsL_law_in_r17 w) ((fun h => (List.mem_append.mp h).elim (wsL_law_in_r18 w) ((fun h => (List.mem_append.mp h).elim (wsL_law_in_r19 w) ((fun h => (List.mem_append.mp h).elim (wsL_law_in_r20 w) ((fun h => (List.mem_append.mp h).elim (wsL_law_in_r21 w) ((fun h => (List.mem_append.mp h).elim (wsL_law_in_r22 w) ((fun h => (List.mem_append.mp h).elim (wsL_law_in_r23 w) ((fun h => (List.mem_append.mp h).elim (wsL_law_in_r24 w) ((fun h => (List.mem_append.mp h).elim (wsL_law_in_r25 w) (wsL_law_in_r26 w))))))))))))))))))))))))))))))))))))))))))))))))))) (wsL_law_in_wsX40 w))) (wsL_law_in_wsX50 w))) (wsL_law_in_wsX30 w))) (wsL_law_in_wsX10 w))) (wsL_law_in_wsX00 w))) (wsL_law_in_wsX20 w))) (fun h => absurd h List.not_mem_nil))
end
section
theorem wsL_law_x0 : ∀ w ∈ (vx_atM "java/lang/ArrayIndexOutOfBoundsException" ["java/lang/IndexOutOfBoundsException", "java/lang/RuntimeException", "java/lang/Exception"]).filter goodWord, w ∈ lw_tbl := by decide +kernel
theorem wsL_law_x1 : ∀ w ∈ (vx_atS RX4 67 "java/lang/IllegalArgumentException" ["java/lang/RuntimeException", "java/lang/Exception"]).filter goodWord, w ∈ lw_tbl := by decide +kernel
theorem wsL_law_x2 : ∀ w ∈ (vx_atS RX4 77 "java/lang/IllegalStateException" ["java/lang/RuntimeException", "java/lang/Exception"]).filter goodWord, w ∈ lw_tbl := by decide +kernel
theorem wsL_law_x3 : ∀ w ∈ (vx_atS RX4 93 "java/lang/IndexOutOfBoundsException" ["java/lang/RuntimeException", "java/lang/Exception"]).filter goodWord, w ∈ lw_tbl := by decide +kernel
end
section
theorem wsL_law_x4 : ∀ w ∈ (nx_atS RX4 111 "java/util/NoSuchElementException" ["java/lang/RuntimeException", "java/lang/Exception"]).filter goodWord, w ∈ lw_tbl := by decide +kernel
theorem wsL_law_x5 : ∀ w ∈ (vx_atS RX4 127 "java/lang/UnsupportedOperationException" ["java/lang/RuntimeException", "java/lang/Exception"]).filter goodWord, w ∈ lw_tbl := by decide +kernel
theorem wsL_law_x6 : ∀ w ∈ (vx_atM "java/lang/ArithmeticException" ["java/lang/RuntimeException", "java/lang/Exception"]).filter goodWord, w ∈ lw_tbl := by decide +kernel
theorem wsL_law_x7 : ∀ w ∈ (vx_atS RX4 236 "java/lang/ArithmeticException" ["java/lang/RuntimeException", "java/lang/Exception"]).filter goodWord, w ∈ lw_tbl := by decide +kernel
end
section
theorem wsL_law_in : ∀ w ∈ wsL_law, w ∈ lw_tbl := fun w h => (List.mem_append.mp h).elim (fun h => (List.mem_append.mp h).elim (fun h => (List.mem_append.mp h).elim (fun h => (List.mem_append.mp h).elim (fun h => (List.mem_append.mp h).elim (fun h => (List.mem_append.mp h).elim (fun h => (List.mem_append.mp h).elim (fun h => (List.mem_append.mp h).elim (fun h => wsL_law_in0 w h) (fun h => wsL_law_x0 w h)) (fun h => wsL_law_x1 w h)) (fun h => wsL_law_x2 w h)) (fun h => wsL_law_x3 w h)) (fun h => wsL_law_x4 w h)) (fun h => wsL_law_x5 w h)) (fun h => wsL_law_x6 w h)) (fun h => wsL_law_x7 w h)
theorem inlX0 : ∀ w ∈ wsX00, w ∈ wsL_law := fun _ h => List.mem_append_left _ (List.mem_append_left _ (List.mem_append_left _ (List.mem_append_left _ (List.mem_append_left _ (List.mem_append_left _ (List.mem_append_left _ (List.mem_append_left _ (List.mem_append_left _ (List.mem_append_left _ (List.mem_append_right _ h))))))))))
theorem inX0 : ∀ w ∈ wsX00, w ∈ lw_tbl := fun w h => wsL_law_in w (inlX0 w h)
theorem inlX1 : ∀ w ∈ wsX10, w ∈ wsL_law := fun _ h => List.mem_append_left _ (List.mem_append_left _ (List.mem_append_left _ (List.mem_append_left _ (List.mem_append_left _ (List.mem_append_left _ (List.mem_append_left _ (List.mem_append_left _ (List.mem_append_left _ (List.mem_append_left _ (List.mem_append_left _ (List.mem_append_right _ h)))))))))))
theorem inX1 : ∀ w ∈ wsX10, w ∈ lw_tbl := fun w h => wsL_law_in w (inlX1 w h)
theorem inlX2 : ∀ w ∈ wsX20, w ∈ wsL_law := fun _ h => List.mem_append_left _ (List.mem_append_left _ (List.mem_append_left _ (List.mem_append_left _ (List.mem_append_left _ (List.mem_append_left _ (List.mem_append_left _ (List.mem_append_left _ (List.mem_append_left _ (List.mem_append_right _ h)))))))))
theorem inX2 : ∀ w ∈ wsX20, w ∈ lw_tbl := fun w h => wsL_law_in w (inlX2 w h)
theorem inlX3 : ∀ w ∈ wsX30, w ∈ wsL_law := fun _ h => List.mem_append_left _ (List.mem_append_left _ (List.mem_append_left _ (List.mem_append_left _ (List.mem_append_left _ (List.mem_append_left _ (List.mem_append_left _ (List.mem_append_left _ (List.mem_append_left _ (List.mem_append_left _ (List.mem_append_left _ (List.mem_append_left _ (List.mem_append_right _ h))))))))))))
theorem inX3 : ∀ w ∈ wsX30, w ∈ lw_tbl := fun w h => wsL_law_in w (inlX3 w h)
theorem inlX4 : ∀ w ∈ wsX40, w ∈ wsL_law := fun _ h => List.mem_append_left _ (List.mem_append_left _ (List.mem_append_left _ (List.mem_append_left _ (List.mem_append_left _ (List.mem_append_left _ (List.mem_append_left _ (List.mem_append_left _ (List.mem_append_left _ (List.mem_append_left _ (List.mem_append_left _ (List.mem_append_left _ (List.mem_append_left _ (List.mem_append_left _ (List.mem_append_right _ h))))))))))))))
theorem inX4 : ∀ w ∈ wsX40, w ∈ lw_tbl := fun w h => wsL_law_in w (inlX4 w h)
theorem inlX5 : ∀ w ∈ wsX50, w ∈ wsL_law := fun _ h => List.mem_append_left _ (List.mem_append_left _ (List.mem_append_left _ (List.mem_append_left _ (List.mem_append_left _ (List.mem_append_left _ (List.mem_append_left _ (List.mem_append_left _ (List.mem_append_left _ (List.mem_append_left _ (List.mem_append_left _ (List.mem_append_left _ (List.mem_append_left _ (List.mem_append_right _ h)))))))))))))
theorem inX5 : ∀ w ∈ wsX50, w ∈ lw_tbl := fun w h => wsL_law_in w (inlX5 w h)
theorem inJx145de : ∀ w ∈ wsJx145de0, w ∈ lw_tbl := by decide +kernel
theorem inJx00060 : ∀ w ∈ wsJx000600, w ∈ lw_tbl := by decide +kernel
theorem inJ9 : ∀ w ∈ wsJ90, w ∈ lw_tbl := by decide +kernel
theorem inJ0 : ∀ w ∈ wsJ00, w ∈ lw_tbl := by decide +kernel
theorem inJ10 : ∀ w ∈ wsJ100, w ∈ lw_tbl := by decide +kernel
theorem inJ7 : ∀ w ∈ wsJ70, w ∈ lw_tbl := by decide +kernel
end
section
theorem dX0_init_0 : decode cX0_init 0 = .ok (.aload_n 0, 1) := by decide +kernel
theorem dX0_init_1 : decode cX0_init 1 = .ok (.invokespecial 1, 3) := by decide +kernel
theorem dX0_init_4 : decode cX0_init 4 = .ok (.aload_n 0, 1) := by decide +kernel
theorem dX0_init_5 : decode cX0_init 5 = .ok (.sipush 2000, 3) := by decide +kernel
theorem dX0_init_8 : decode cX0_init 8 = .ok (.putfield 7, 3) := by decide +kernel
theorem dX0_init_11 : decode cX0_init 11 = .ok (.aload_n 0, 1) := by decide +kernel
theorem dX0_init_12 : decode cX0_init 12 = .ok (.iconst 3, 1) := by decide +kernel
theorem dX0_init_13 : decode cX0_init 13 = .ok (.putfield 13, 3) := by decide +kernel
theorem dX0_init_16 : decode cX0_init 16 = .ok (.aload_n 0, 1) := by decide +kernel
theorem dX0_init_17 : decode cX0_init 17 = .ok (.iconst 5, 1) := by decide +kernel
theorem dX0_init_18 : decode cX0_init 18 = .ok (.putfield 16, 3) := by decide +kernel
theorem dX0_init_21 : decode cX0_init 21 = .ok (.return_, 1) := by decide +kernel
theorem dX0_cost_0 : decode cX0_cost 0 = .ok (.iload_n 1, 1) := by decide +kernel
theorem dX0_cost_1 : decode cX0_cost 1 = .ok (.aload_n 0, 1) := by decide +kernel
theorem dX0_cost_2 : decode cX0_cost 2 = .ok (.getfield 7, 3) := by decide +kernel
theorem dX0_cost_5 : decode cX0_cost 5 = .ok (.invokestatic 19, 3) := by decide +kernel
theorem dX0_cost_8 : decode cX0_cost 8 = .ok (.istore_n 2, 1) := by decide +kernel
theorem dX0_cost_9 : decode cX0_cost 9 = .ok (.iload_n 2, 1) := by decide +kernel
theorem dX0_cost_10 : decode cX0_cost 10 = .ok (.i2l, 1) := by decide +kernel
theorem dX0_cost_11 : decode cX0_cost 11 = .ok (.aload_n 0, 1) := by decide +kernel
theorem dX0_cost_12 : decode cX0_cost 12 = .ok (.getfield 13, 3) := by decide +kernel
theorem dX0_cost_15 : decode cX0_cost 15 = .ok (.i2l, 1) := by decide +kernel
theorem dX0_cost_16 : decode cX0_cost 16 = .ok (.lmul, 1) := by decide +kernel
theorem dX0_cost_17 : decode cX0_cost 17 = .ok (.iload_n 1, 1) := by decide +kernel
theorem dX0_cost_18 : decode cX0_cost 18 = .ok (.iload_n 2, 1) := by decide +kernel
theorem dX0_cost_19 : decode cX0_cost 19 = .ok (.isub, 1) := by decide +kernel
theorem dX0_cost_20 : decode cX0_cost 20 = .ok (.i2l, 1) := by decide +kernel
theorem dX0_cost_21 : decode cX0_cost 21 = .ok (.aload_n 0, 1) := by decide +kernel
theorem dX0_cost_22 : decode cX0_cost 22 = .ok (.getfield 16, 3) := by decide +kernel
theorem dX0_cost_25 : decode cX0_cost 25 = .ok (.i2l, 1) := by decide +kernel
theorem dX0_cost_26 : decode cX0_cost 26 = .ok (.lmul, 1) := by decide +kernel
theorem dX0_cost_27 : decode cX0_cost 27 = .ok (.ladd, 1) := by decide +kernel
theorem dX0_cost_28 : decode cX0_cost 28 = .ok (.lreturn, 1) := by decide +kernel
theorem dX1_init_0 : decode cX1_init 0 = .ok (.aload_n 0, 1) := by decide +kernel
theorem dX1_init_1 : decode cX1_init 1 = .ok (.invokespecial 3, 3) := by decide +kernel
theorem dX1_init_4 : decode cX1_init 4 = .ok (.aload_n 0, 1) := by decide +kernel
theorem dX1_init_5 : decode cX1_init 5 = .ok (.bipush 10, 2) := by decide +kernel
theorem dX1_init_7 : decode cX1_init 7 = .ok (.newarray .int, 2) := by decide +kernel
theorem dX1_init_9 : decode cX1_init 9 = .ok (.putfield 9, 3) := by decide +kernel
theorem dX1_init_12 : decode cX1_init 12 = .ok (.aload_n 0, 1) := by decide +kernel
theorem dX1_init_13 : decode cX1_init 13 = .ok (.bipush 10, 2) := by decide +kernel
theorem dX1_init_15 : decode cX1_init 15 = .ok (.newarray .int, 2) := by decide +kernel
theorem dX1_init_17 : decode cX1_init 17 = .ok (.putfield 15, 3) := by decide +kernel
theorem dX1_init_20 : decode cX1_init 20 = .ok (.aload_n 0, 1) := by decide +kernel
theorem dX1_init_21 : decode cX1_init 21 = .ok (.bipush 10, 2) := by decide +kernel
theorem dX1_init_23 : decode cX1_init 23 = .ok (.newarray .int, 2) := by decide +kernel
theorem dX1_init_25 : decode cX1_init 25 = .ok (.putfield 18, 3) := by decide +kernel
theorem dX1_init_28 : decode cX1_init 28 = .ok (.aload_n 0, 1) := by decide +kernel
theorem dX1_init_29 : decode cX1_init 29 = .ok (.bipush 10, 2) := by decide +kernel
theorem dX1_init_31 : decode cX1_init 31 = .ok (.newarray .int, 2) := by decide +kernel
theorem dX1_init_33 : decode cX1_init 33 = .ok (.putfield 21, 3) := by decide +kernel
theorem dX1_init_36 : decode cX1_init 36 = .ok (.aload_n 0, 1) := by decide +kernel
theorem dX1_init_37 : decode cX1_init 37 = .ok (.bipush 10, 2) := by decide +kernel
theorem dX1_init_39 : decode cX1_init 39 = .ok (.newarray .int, 2) := by decide +kernel
theorem dX1_init_41 : decode cX1_init 41 = .ok (.putfield 24, 3) := by decide +kernel
theorem dX1_init_44 : decode cX1_init 44 = .ok (.aload_n 0, 1) := by decide +kernel
theorem dX1_init_45 : decode cX1_init 45 = .ok (.sipush 801, 3) := by decide +kernel
theorem dX1_init_48 : decode cX1_init 48 = .ok (.newarray .int, 2) := by decide +kernel
theorem dX1_init_50 : decode cX1_init 50 = .ok (.putfield 27, 3) := by decide +kernel
theorem dX1_init_53 : decode cX1_init 53 = .ok (.return_, 1) := by decide +kernel
set_option maxRecDepth 20000 in
theorem ggX1_load_X3_has : GoodIn wsX1_load wsX3_has := goodIn_r _ [19, 20, 29, 30, 31, 32, 33] (by decide +kernel) (by decide +kernel)
set_option maxRecDepth 20000 in
theorem gX1_load_X3_has : GoodIn wsX1_load (wsV RX1 43 RX3 yX3_has wsX3_has) := goodIn_app (goodIn_of _ (by decide +kernel)) ggX1_load_X3_has
theorem dX1_load_0 : decode cX1_load 0 = .ok (.aload_n 0, 1) := by decide +kernel
theorem dX1_load_1 : decode cX1_load 1 = .ok (.iconst 0, 1) := by decide +kernel
theorem dX1_load_2 : decode cX1_load 2 = .ok (.iload_n 3, 1) := by decide +kernel
theorem dX1_load_3 : decode cX1_load 3 = .ok (.sipush 800, 3) := by decide +kernel
theorem dX1_load_6 : decode cX1_load 6 = .ok (.invokestatic 30, 3) := by decide +kernel
theorem dX1_load_9 : decode cX1_load 9 = .ok (.invokestatic 36, 3) := by decide +kernel
theorem dX1_load_12 : decode cX1_load 12 = .ok (.putfield 39, 3) := by decide +kernel
theorem dX1_load_15 : decode cX1_load 15 = .ok (.iconst 0, 1) := by decide +kernel
theorem dX1_load_16 : decode cX1_load 16 = .ok (.istore 4, 2) := by decide +kernel
theorem dX1_load_18 : decode cX1_load 18 = .ok (.bipush 9, 2) := by decide +kernel
theorem dX1_load_20 : decode cX1_load 20 = .ok (.istore 5, 2) := by decide +kernel
theorem dX1_load_22 : decode cX1_load 22 = .ok (.iload 5, 2) := by decide +kernel
theorem dX1_load_24 : decode cX1_load 24 = .ok (.ifCond .lt 116, 3) := by decide +kernel
theorem dX1_load_27 : decode cX1_load 27 = .ok (.aload_n 1, 1) := by decide +kernel
theorem dX1_load_28 : decode cX1_load 28 = .ok (.iload 5, 2) := by decide +kernel
theorem dX1_load_30 : decode cX1_load 30 = .ok (.invokevirtual 43, 3) := by decide +kernel
theorem dX1_load_33 : decode cX1_load 33 = .ok (.ifCond .eq 18, 3) := by decide +kernel
theorem dX1_load_36 : decode cX1_load 36 = .ok (.aload_n 1, 1) := by decide +kernel
theorem dX1_load_37 : decode cX1_load 37 = .ok (.getfield 49, 3) := by decide +kernel
theorem dX1_load_40 : decode cX1_load 40 = .ok (.iload 5, 2) := by decide +kernel
theorem dX1_load_42 : decode cX1_load 42 = .ok (.iaload, 1) := by decide +kernel
theorem dX1_load_43 : decode cX1_load 43 = .ok (.iload_n 2, 1) := by decide +kernel
theorem dX1_load_44 : decode cX1_load 44 = .ok (.if_icmp .ne 7, 3) := by decide +kernel
theorem dX1_load_47 : decode cX1_load 47 = .ok (.iconst 1, 1) := by decide +kernel
theorem dX1_load_48 : decode cX1_load 48 = .ok (.goto 4, 3) := by decide +kernel
theorem dX1_load_51 : decode cX1_load 51 = .ok (.iconst 0, 1) := by decide +kernel
theorem dX1_load_52 : decode cX1_load 52 = .ok (.istore 6, 2) := by decide +kernel
theorem dX1_load_54 : decode cX1_load 54 = .ok (.aload_n 0, 1) := by decide +kernel
theorem dX1_load_55 : decode cX1_load 55 = .ok (.getfield 18, 3) := by decide +kernel
theorem dX1_load_58 : decode cX1_load 58 = .ok (.iload 5, 2) := by decide +kernel
theorem dX1_load_60 : decode cX1_load 60 = .ok (.aload_n 1, 1) := by decide +kernel
theorem dX1_load_61 : decode cX1_load 61 = .ok (.getfield 52, 3) := by decide +kernel
theorem dX1_load_64 : decode cX1_load 64 = .ok (.iload 5, 2) := by decide +kernel
theorem dX1_load_66 : decode cX1_load 66 = .ok (.iaload, 1) := by decide +kernel
theorem dX1_load_67 : decode cX1_load 67 = .ok (.iastore, 1) := by decide +kernel
theorem dX1_load_68 : decode cX1_load 68 = .ok (.aload_n 0, 1) := by decide +kernel
theorem dX1_load_69 : decode cX1_load 69 = .ok (.getfield 21, 3) := by decide +kernel
theorem dX1_load_72 : decode cX1_load 72 = .ok (.iload 5, 2) := by decide +kernel
theorem dX1_load_74 : decode cX1_load 74 = .ok (.iload 6, 2) := by decide +kernel
theorem dX1_load_76 : decode cX1_load 76 = .ok (.ifCond .eq 18, 3) := by decide +kernel
theorem dX1_load_79 : decode cX1_load 79 = .ok (.aload_n 1, 1) := by decide +kernel
theorem dX1_load_80 : decode cX1_load 80 = .ok (.getfield 53, 3) := by decide +kernel
theorem dX1_load_83 : decode cX1_load 83 = .ok (.iload 5, 2) := by decide +kernel
theorem dX1_load_85 : decode cX1_load 85 = .ok (.iaload, 1) := by decide +kernel
theorem dX1_load_86 : decode cX1_load 86 = .ok (.bipush 6, 2) := by decide +kernel
theorem dX1_load_88 : decode cX1_load 88 = .ok (.invokestatic 30, 3) := by decide +kernel
theorem dX1_load_91 : decode cX1_load 91 = .ok (.goto 4, 3) := by decide +kernel
theorem dX1_load_94 : decode cX1_load 94 = .ok (.iconst 0, 1) := by decide +kernel
theorem dX1_load_95 : decode cX1_load 95 = .ok (.iastore, 1) := by decide +kernel
theorem dX1_load_96 : decode cX1_load 96 = .ok (.aload_n 0, 1) := by decide +kernel
theorem dX1_load_97 : decode cX1_load 97 = .ok (.getfield 21, 3) := by decide +kernel
theorem dX1_load_100 : decode cX1_load 100 = .ok (.iload 5, 2) := by decide +kernel
theorem dX1_load_102 : decode cX1_load 102 = .ok (.iaload, 1) := by decide +kernel
theorem dX1_load_103 : decode cX1_load 103 = .ok (.ifCond .le 18, 3) := by decide +kernel
theorem dX1_load_106 : decode cX1_load 106 = .ok (.iload 4, 2) := by decide +kernel
theorem dX1_load_108 : decode cX1_load 108 = .ok (.aload_n 0, 1) := by decide +kernel
theorem dX1_load_109 : decode cX1_load 109 = .ok (.getfield 18, 3) := by decide +kernel
theorem dX1_load_112 : decode cX1_load 112 = .ok (.iload 5, 2) := by decide +kernel
theorem dX1_load_114 : decode cX1_load 114 = .ok (.iaload, 1) := by decide +kernel
theorem dX1_load_115 : decode cX1_load 115 = .ok (.invokestatic 36, 3) := by decide +kernel
theorem dX1_load_118 : decode cX1_load 118 = .ok (.goto 5, 3) := by decide +kernel
theorem dX1_load_121 : decode cX1_load 121 = .ok (.iload 4, 2) := by decide +kernel
theorem dX1_load_123 : decode cX1_load 123 = .ok (.istore 4, 2) := by decide +kernel
theorem dX1_load_125 : decode cX1_load 125 = .ok (.aload_n 0, 1) := by decide +kernel
theorem dX1_load_126 : decode cX1_load 126 = .ok (.getfield 24, 3) := by decide +kernel
theorem dX1_load_129 : decode cX1_load 129 = .ok (.iload 5, 2) := by decide +kernel
theorem dX1_load_131 : decode cX1_load 131 = .ok (.iload 4, 2) := by decide +kernel
theorem dX1_load_133 : decode cX1_load 133 = .ok (.iastore, 1) := by decide +kernel
theorem dX1_load_134 : decode cX1_load 134 = .ok (.iinc 5 (-1), 3) := by decide +kernel
theorem dX1_load_137 : decode cX1_load 137 = .ok (.goto (-115), 3) := by decide +kernel
theorem dX1_load_140 : decode cX1_load 140 = .ok (.return_, 1) := by decide +kernel
set_option maxRecDepth 20000 in
theorem ggX1_sumBySearch_J7_fill_53178 : GoodIn wsX1_sumBySearch wsJ7_fill_53178 := goodIn_r _ [6] (by decide +kernel) (by decide +kernel)
set_option maxRecDepth 20000 in
theorem gX1_sumBySearch_J7_fill_53178 : GoodIn wsX1_sumBySearch (va_wsS RX1 59 yJ7_fill_53178 wsJ7_fill_53178) := goodIn_app (goodIn_of _ (by decide +kernel)) ggX1_sumBySearch_J7_fill_53178
set_option maxRecDepth 20000 in
theorem ggX1_sumBySearch_X1_search : GoodIn wsX1_sumBySearch wsX1_search := goodIn_ca (goodIn_r _ [10, 11, 12, 13, 14, 15, 16, 1, 17, 18, 19, 20, 21, 22, 9, 23, 2, 24, 25, 26, 27, 7, 8, 28, 29, 30, 31, 32, 33, 34, 35] (by decide +kernel) (by decide +kernel)) (goodIn_sub (fun _ h => List.mem_cons_of_mem _ (List.mem_append_right _ h)) (by decide +kernel))
set_option maxRecDepth 20000 in
theorem gX1_sumBySearch_X1_search : GoodIn wsX1_sumBySearch (va_wsS RX1 65 yX1_search wsX1_search) := goodIn_app (goodIn_of _ (by decide +kernel)) ggX1_sumBySearch_X1_search
theorem dX1_sumBySearch_0 : decode cX1_sumBySearch 0 = .ok (.aload_n 0, 1) := by decide +kernel
theorem dX1_sumBySearch_1 : decode cX1_sumBySearch 1 = .ok (.iconst 0, 1) := by decide +kernel
theorem dX1_sumBySearch_2 : decode cX1_sumBySearch 2 = .ok (.putfield 56, 3) := by decide +kernel
theorem dX1_sumBySearch_5 : decode cX1_sumBySearch 5 = .ok (.aload_n 0, 1) := by decide +kernel
theorem dX1_sumBySearch_6 : decode cX1_sumBySearch 6 = .ok (.getfield 9, 3) := by decide +kernel
theorem dX1_sumBySearch_9 : decode cX1_sumBySearch 9 = .ok (.iconst 0, 1) := by decide +kernel
theorem dX1_sumBySearch_10 : decode cX1_sumBySearch 10 = .ok (.invokestatic 59, 3) := by decide +kernel
theorem dX1_sumBySearch_13 : decode cX1_sumBySearch 13 = .ok (.aload_n 0, 1) := by decide +kernel
theorem dX1_sumBySearch_14 : decode cX1_sumBySearch 14 = .ok (.iconst 0, 1) := by decide +kernel
theorem dX1_sumBySearch_15 : decode cX1_sumBySearch 15 = .ok (.bipush 6, 2) := by decide +kernel
theorem dX1_sumBySearch_17 : decode cX1_sumBySearch 17 = .ok (.iconst 0, 1) := by decide +kernel
theorem dX1_sumBySearch_18 : decode cX1_sumBySearch 18 = .ok (.invokestatic 65, 3) := by decide +kernel
theorem dX1_sumBySearch_21 : decode cX1_sumBySearch 21 = .ok (.aload_n 0, 1) := by decide +kernel
theorem dX1_sumBySearch_22 : decode cX1_sumBySearch 22 = .ok (.getfield 56, 3) := by decide +kernel
theorem dX1_sumBySearch_25 : decode cX1_sumBySearch 25 = .ok (.ireturn, 1) := by decide +kernel
set_option maxRecDepth 20000 in
theorem ggX1_search_X1_keepIfGreater : GoodIn wsX1_search wsX1_keepIfGreater := goodIn_r _ [15, 7, 10, 16, 17, 18, 19, 20, 23, 24, 25, 26, 27, 28, 29, 30] (by decide +kernel) (by decide +kernel)
set_option maxRecDepth 20000 in
theorem gX1_search_X1_keepIfGreater : GoodIn wsX1_search (wsV RX1 69 RX1 yX1_keepIfGreater wsX1_keepIfGreater) := goodIn_app (goodIn_of _ (by decide +kernel)) ggX1_search_X1_keepIfGreater
set_option maxRecDepth 20000 in
theorem ggX1_search_X1_search : GoodIn wsX1_search wsX1_search := goodIn_ca (goodIn_r _ [0, 1, 2, 3, 4, 5, 6, 7, 8, 9, 10, 11, 12, 13, 14, 15, 16, 17, 18, 19, 20, 21, 22, 23, 24, 25, 26, 27, 28, 29, 30] (by decide +kernel) (by decide +kernel)) (goodIn_sub (fun _ h => List.mem_cons_of_mem _ (List.mem_append_right _ h)) (by decide +kernel))
set_option maxRecDepth 20000 in
theorem gX1_search_X1_search : GoodIn wsX1_search (va_wsS RX1 65 yX1_search wsX1_search) := goodIn_app (goodIn_of _ (by decide +kernel)) ggX1_search_X1_search
theorem dX1_search_0 : decode cX1_search 0 = .ok (.iload_n 1, 1) := by decide +kernel
theorem dX1_search_1 : decode cX1_search 1 = .ok (.ifCond .lt 9, 3) := by decide +kernel
theorem dX1_search_4 : decode cX1_search 4 = .ok (.iload_n 1, 1) := by decide +kernel
theorem dX1_search_5 : decode cX1_search 5 = .ok (.bipush 10, 2) := by decide +kernel
theorem dX1_search_7 : decode cX1_search 7 = .ok (.if_icmp .lt 9, 3) := by decide +kernel
theorem dX1_search_10 : decode cX1_search 10 = .ok (.aload_n 0, 1) := by decide +kernel
theorem dX1_search_11 : decode cX1_search 11 = .ok (.iload_n 3, 1) := by decide +kernel
theorem dX1_search_12 : decode cX1_search 12 = .ok (.invokevirtual 69, 3) := by decide +kernel
theorem dX1_search_15 : decode cX1_search 15 = .ok (.return_, 1) := by decide +kernel
theorem dX1_search_16 : decode cX1_search 16 = .ok (.iload_n 2, 1) := by decide +kernel
theorem dX1_search_17 : decode cX1_search 17 = .ok (.aload_n 0, 1) := by decide +kernel
theorem dX1_search_18 : decode cX1_search 18 = .ok (.getfield 24, 3) := by decide +kernel
theorem dX1_search_21 : decode cX1_search 21 = .ok (.iload_n 1, 1) := by decide +kernel
theorem dX1_search_22 : decode cX1_search 22 = .ok (.iaload, 1) := by decide +kernel
theorem dX1_search_23 : decode cX1_search 23 = .ok (.imul, 1) := by decide +kernel
theorem dX1_search_24 : decode cX1_search 24 = .ok (.aload_n 0, 1) := by decide +kernel
theorem dX1_search_25 : decode cX1_search 25 = .ok (.getfield 39, 3) := by decide +kernel
theorem dX1_search_28 : decode cX1_search 28 = .ok (.iload_n 3, 1) := by decide +kernel
theorem dX1_search_29 : decode cX1_search 29 = .ok (.isub, 1) := by decide +kernel
theorem dX1_search_30 : decode cX1_search 30 = .ok (.invokestatic 30, 3) := by decide +kernel
theorem dX1_search_33 : decode cX1_search 33 = .ok (.istore 4, 2) := by decide +kernel
theorem dX1_search_35 : decode cX1_search 35 = .ok (.iload_n 3, 1) := by decide +kernel
theorem dX1_search_36 : decode cX1_search 36 = .ok (.iload 4, 2) := by decide +kernel
theorem dX1_search_38 : decode cX1_search 38 = .ok (.iadd, 1) := by decide +kernel
theorem dX1_search_39 : decode cX1_search 39 = .ok (.aload_n 0, 1) := by decide +kernel
theorem dX1_search_40 : decode cX1_search 40 = .ok (.getfield 56, 3) := by decide +kernel
theorem dX1_search_43 : decode cX1_search 43 = .ok (.if_icmp .gt 4, 3) := by decide +kernel
theorem dX1_search_46 : decode cX1_search 46 = .ok (.return_, 1) := by decide +kernel
theorem dX1_search_47 : decode cX1_search 47 = .ok (.aload_n 0, 1) := by decide +kernel
theorem dX1_search_48 : decode cX1_search 48 = .ok (.getfield 21, 3) := by decide +kernel
theorem dX1_search_51 : decode cX1_search 51 = .ok (.iload_n 1, 1) := by decide +kernel
theorem dX1_search_52 : decode cX1_search 52 = .ok (.iaload, 1) := by decide +kernel
theorem dX1_search_53 : decode cX1_search 53 = .ok (.iload_n 2, 1) := by decide +kernel
theorem dX1_search_54 : decode cX1_search 54 = .ok (.invokestatic 30, 3) := by decide +kernel
theorem dX1_search_57 : decode cX1_search 57 = .ok (.istore 5, 2) := by decide +kernel
theorem dX1_search_59 : decode cX1_search 59 = .ok (.iload 5, 2) := by decide +kernel
theorem dX1_search_61 : decode cX1_search 61 = .ok (.ifCond .lt 52, 3) := by decide +kernel
theorem dX1_search_64 : decode cX1_search 64 = .ok (.iload_n 3, 1) := by decide +kernel
theorem dX1_search_65 : decode cX1_search 65 = .ok (.iload 5, 2) := by decide +kernel
theorem dX1_search_67 : decode cX1_search 67 = .ok (.aload_n 0, 1) := by decide +kernel
theorem dX1_search_68 : decode cX1_search 68 = .ok (.getfield 18, 3) := by decide +kernel
theorem dX1_search_71 : decode cX1_search 71 = .ok (.iload_n 1, 1) := by decide +kernel
theorem dX1_search_72 : decode cX1_search 72 = .ok (.iaload, 1) := by decide +kernel
theorem dX1_search_73 : decode cX1_search 73 = .ok (.imul, 1) := by decide +kernel
theorem dX1_search_74 : decode cX1_search 74 = .ok (.iadd, 1) := by decide +kernel
theorem dX1_search_75 : decode cX1_search 75 = .ok (.istore 6, 2) := by decide +kernel
theorem dX1_search_77 : decode cX1_search 77 = .ok (.iload 6, 2) := by decide +kernel
theorem dX1_search_79 : decode cX1_search 79 = .ok (.aload_n 0, 1) := by decide +kernel
theorem dX1_search_80 : decode cX1_search 80 = .ok (.getfield 39, 3) := by decide +kernel
theorem dX1_search_83 : decode cX1_search 83 = .ok (.if_icmp .gt 24, 3) := by decide +kernel
theorem dX1_search_86 : decode cX1_search 86 = .ok (.aload_n 0, 1) := by decide +kernel
theorem dX1_search_87 : decode cX1_search 87 = .ok (.getfield 15, 3) := by decide +kernel
theorem dX1_search_90 : decode cX1_search 90 = .ok (.iload_n 1, 1) := by decide +kernel
theorem dX1_search_91 : decode cX1_search 91 = .ok (.iload 5, 2) := by decide +kernel
theorem dX1_search_93 : decode cX1_search 93 = .ok (.iastore, 1) := by decide +kernel
theorem dX1_search_94 : decode cX1_search 94 = .ok (.aload_n 0, 1) := by decide +kernel
theorem dX1_search_95 : decode cX1_search 95 = .ok (.iload_n 1, 1) := by decide +kernel
theorem dX1_search_96 : decode cX1_search 96 = .ok (.iconst 1, 1) := by decide +kernel
theorem dX1_search_97 : decode cX1_search 97 = .ok (.iadd, 1) := by decide +kernel
theorem dX1_search_98 : decode cX1_search 98 = .ok (.iload_n 2, 1) := by decide +kernel
theorem dX1_search_99 : decode cX1_search 99 = .ok (.iload 5, 2) := by decide +kernel
theorem dX1_search_101 : decode cX1_search 101 = .ok (.isub, 1) := by decide +kernel
theorem dX1_search_102 : decode cX1_search 102 = .ok (.iload 6, 2) := by decide +kernel
theorem dX1_search_104 : decode cX1_search 104 = .ok (.invokestatic 65, 3) := by decide +kernel
theorem dX1_search_107 : decode cX1_search 107 = .ok (.iinc 5 (-1), 3) := by decide +kernel
theorem dX1_search_110 : decode cX1_search 110 = .ok (.goto (-51), 3) := by decide +kernel
theorem dX1_search_113 : decode cX1_search 113 = .ok (.return_, 1) := by decide +kernel
theorem dX1_keepIfGreater_0 : decode cX1_keepIfGreater 0 = .ok (.iload_n 1, 1) := by decide +kernel
theorem dX1_keepIfGreater_1 : decode cX1_keepIfGreater 1 = .ok (.aload_n 0, 1) := by decide +kernel
theorem dX1_keepIfGreater_2 : decode cX1_keepIfGreater 2 = .ok (.getfield 56, 3) := by decide +kernel
theorem dX1_keepIfGreater_5 : decode cX1_keepIfGreater 5 = .ok (.if_icmp .le 23, 3) := by decide +kernel
theorem dX1_keepIfGreater_8 : decode cX1_keepIfGreater 8 = .ok (.aload_n 0, 1) := by decide +kernel
theorem dX1_keepIfGreater_9 : decode cX1_keepIfGreater 9 = .ok (.iload_n 1, 1) := by decide +kernel
theorem dX1_keepIfGreater_10 : decode cX1_keepIfGreater 10 = .ok (.putfield 56, 3) := by decide +kernel
theorem dX1_keepIfGreater_13 : decode cX1_keepIfGreater 13 = .ok (.aload_n 0, 1) := by decide +kernel
theorem dX1_keepIfGreater_14 : decode cX1_keepIfGreater 14 = .ok (.getfield 15, 3) := by decide +kernel
theorem dX1_keepIfGreater_17 : decode cX1_keepIfGreater 17 = .ok (.iconst 0, 1) := by decide +kernel
theorem dX1_keepIfGreater_18 : decode cX1_keepIfGreater 18 = .ok (.aload_n 0, 1) := by decide +kernel
theorem dX1_keepIfGreater_19 : decode cX1_keepIfGreater 19 = .ok (.getfield 9, 3) := by decide +kernel
theorem dX1_keepIfGreater_22 : decode cX1_keepIfGreater 22 = .ok (.iconst 0, 1) := by decide +kernel
theorem dX1_keepIfGreater_23 : decode cX1_keepIfGreater 23 = .ok (.bipush 10, 2) := by decide +kernel
theorem dX1_keepIfGreater_25 : decode cX1_keepIfGreater 25 = .ok (.invokestatic 73, 3) := by decide +kernel
theorem dX1_keepIfGreater_28 : decode cX1_keepIfGreater 28 = .ok (.return_, 1) := by decide +kernel
set_option maxRecDepth 20000 in
theorem ggX1_sumByTable_J7_fill_53178 : GoodIn wsX1_sumByTable wsJ7_fill_53178 := goodIn_r _ [8] (by decide +kernel) (by decide +kernel)
set_option maxRecDepth 20000 in
theorem gX1_sumByTable_J7_fill_53178 : GoodIn wsX1_sumByTable (va_wsS RX1 59 yJ7_fill_53178 wsJ7_fill_53178) := goodIn_app (goodIn_of _ (by decide +kernel)) ggX1_sumByTable_J7_fill_53178
set_option maxRecDepth 20000 in
theorem ggX1_sumByTable_X1_addRollToTable : GoodIn wsX1_sumByTable wsX1_addRollToTable := goodIn_ca (goodIn_r _ [13, 4, 1, 14, 15, 16, 17, 18, 19, 20, 21, 22, 23, 24, 25] (by decide +kernel) (by decide +kernel)) (goodIn_sub (fun _ h => List.mem_cons_of_mem _ (List.mem_append_right _ h)) (by decide +kernel))
set_option maxRecDepth 20000 in
theorem gX1_sumByTable_X1_addRollToTable : GoodIn wsX1_sumByTable (wsV RX1 79 RX1 yX1_addRollToTable wsX1_addRollToTable) := goodIn_app (goodIn_of _ (by decide +kernel)) ggX1_sumByTable_X1_addRollToTable
theorem dX1_sumByTable_0 : decode cX1_sumByTable 0 = .ok (.aload_n 0, 1) := by decide +kernel
theorem dX1_sumByTable_1 : decode cX1_sumByTable 1 = .ok (.getfield 27, 3) := by decide +kernel
theorem dX1_sumByTable_4 : decode cX1_sumByTable 4 = .ok (.bipush 7, 2) := by decide +kernel
theorem dX1_sumByTable_6 : decode cX1_sumByTable 6 = .ok (.invokestatic 59, 3) := by decide +kernel
theorem dX1_sumByTable_9 : decode cX1_sumByTable 9 = .ok (.aload_n 0, 1) := by decide +kernel
theorem dX1_sumByTable_10 : decode cX1_sumByTable 10 = .ok (.getfield 27, 3) := by decide +kernel
theorem dX1_sumByTable_13 : decode cX1_sumByTable 13 = .ok (.iconst 0, 1) := by decide +kernel
theorem dX1_sumByTable_14 : decode cX1_sumByTable 14 = .ok (.iconst 0, 1) := by decide +kernel
theorem dX1_sumByTable_15 : decode cX1_sumByTable 15 = .ok (.iastore, 1) := by decide +kernel
theorem dX1_sumByTable_16 : decode cX1_sumByTable 16 = .ok (.iconst 0, 1) := by decide +kernel
theorem dX1_sumByTable_17 : decode cX1_sumByTable 17 = .ok (.istore_n 1, 1) := by decide +kernel
theorem dX1_sumByTable_18 : decode cX1_sumByTable 18 = .ok (.iload_n 1, 1) := by decide +kernel
theorem dX1_sumByTable_19 : decode cX1_sumByTable 19 = .ok (.bipush 10, 2) := by decide +kernel
theorem dX1_sumByTable_21 : decode cX1_sumByTable 21 = .ok (.if_icmp .ge 37, 3) := by decide +kernel
theorem dX1_sumByTable_24 : decode cX1_sumByTable 24 = .ok (.iconst 0, 1) := by decide +kernel
theorem dX1_sumByTable_25 : decode cX1_sumByTable 25 = .ok (.istore_n 2, 1) := by decide +kernel
theorem dX1_sumByTable_26 : decode cX1_sumByTable 26 = .ok (.iload_n 2, 1) := by decide +kernel
theorem dX1_sumByTable_27 : decode cX1_sumByTable 27 = .ok (.aload_n 0, 1) := by decide +kernel
theorem dX1_sumByTable_28 : decode cX1_sumByTable 28 = .ok (.getfield 21, 3) := by decide +kernel
theorem dX1_sumByTable_31 : decode cX1_sumByTable 31 = .ok (.iload_n 1, 1) := by decide +kernel
theorem dX1_sumByTable_32 : decode cX1_sumByTable 32 = .ok (.iaload, 1) := by decide +kernel
theorem dX1_sumByTable_33 : decode cX1_sumByTable 33 = .ok (.if_icmp .ge 19, 3) := by decide +kernel
theorem dX1_sumByTable_36 : decode cX1_sumByTable 36 = .ok (.aload_n 0, 1) := by decide +kernel
theorem dX1_sumByTable_37 : decode cX1_sumByTable 37 = .ok (.aload_n 0, 1) := by decide +kernel
theorem dX1_sumByTable_38 : decode cX1_sumByTable 38 = .ok (.getfield 18, 3) := by decide +kernel
theorem dX1_sumByTable_41 : decode cX1_sumByTable 41 = .ok (.iload_n 1, 1) := by decide +kernel
theorem dX1_sumByTable_42 : decode cX1_sumByTable 42 = .ok (.iaload, 1) := by decide +kernel
theorem dX1_sumByTable_43 : decode cX1_sumByTable 43 = .ok (.invokevirtual 79, 3) := by decide +kernel
theorem dX1_sumByTable_46 : decode cX1_sumByTable 46 = .ok (.iinc 2 1, 3) := by decide +kernel
theorem dX1_sumByTable_49 : decode cX1_sumByTable 49 = .ok (.goto (-23), 3) := by decide +kernel
theorem dX1_sumByTable_52 : decode cX1_sumByTable 52 = .ok (.iinc 1 1, 3) := by decide +kernel
theorem dX1_sumByTable_55 : decode cX1_sumByTable 55 = .ok (.goto (-37), 3) := by decide +kernel
theorem dX1_sumByTable_58 : decode cX1_sumByTable 58 = .ok (.aload_n 0, 1) := by decide +kernel
theorem dX1_sumByTable_59 : decode cX1_sumByTable 59 = .ok (.getfield 39, 3) := by decide +kernel
theorem dX1_sumByTable_62 : decode cX1_sumByTable 62 = .ok (.istore_n 1, 1) := by decide +kernel
theorem dX1_sumByTable_63 : decode cX1_sumByTable 63 = .ok (.iload_n 1, 1) := by decide +kernel
theorem dX1_sumByTable_64 : decode cX1_sumByTable 64 = .ok (.ifCond .le 22, 3) := by decide +kernel
theorem dX1_sumByTable_67 : decode cX1_sumByTable 67 = .ok (.aload_n 0, 1) := by decide +kernel
theorem dX1_sumByTable_68 : decode cX1_sumByTable 68 = .ok (.getfield 27, 3) := by decide +kernel
theorem dX1_sumByTable_71 : decode cX1_sumByTable 71 = .ok (.iload_n 1, 1) := by decide +kernel
theorem dX1_sumByTable_72 : decode cX1_sumByTable 72 = .ok (.iaload, 1) := by decide +kernel
theorem dX1_sumByTable_73 : decode cX1_sumByTable 73 = .ok (.bipush 6, 2) := by decide +kernel
theorem dX1_sumByTable_75 : decode cX1_sumByTable 75 = .ok (.if_icmp .gt 5, 3) := by decide +kernel
theorem dX1_sumByTable_78 : decode cX1_sumByTable 78 = .ok (.iload_n 1, 1) := by decide +kernel
theorem dX1_sumByTable_79 : decode cX1_sumByTable 79 = .ok (.ireturn, 1) := by decide +kernel
theorem dX1_sumByTable_80 : decode cX1_sumByTable 80 = .ok (.iinc 1 (-1), 3) := by decide +kernel
theorem dX1_sumByTable_83 : decode cX1_sumByTable 83 = .ok (.goto (-20), 3) := by decide +kernel
theorem dX1_sumByTable_86 : decode cX1_sumByTable 86 = .ok (.iconst 0, 1) := by decide +kernel
theorem dX1_sumByTable_87 : decode cX1_sumByTable 87 = .ok (.ireturn, 1) := by decide +kernel
theorem dX1_addRollToTable_0 : decode cX1_addRollToTable 0 = .ok (.aload_n 0, 1) := by decide +kernel
theorem dX1_addRollToTable_1 : decode cX1_addRollToTable 1 = .ok (.getfield 39, 3) := by decide +kernel
theorem dX1_addRollToTable_4 : decode cX1_addRollToTable 4 = .ok (.istore_n 2, 1) := by decide +kernel
theorem dX1_addRollToTable_5 : decode cX1_addRollToTable 5 = .ok (.iload_n 2, 1) := by decide +kernel
theorem dX1_addRollToTable_6 : decode cX1_addRollToTable 6 = .ok (.iload_n 1, 1) := by decide +kernel
theorem dX1_addRollToTable_7 : decode cX1_addRollToTable 7 = .ok (.if_icmp .lt 38, 3) := by decide +kernel
theorem dX1_addRollToTable_10 : decode cX1_addRollToTable 10 = .ok (.iload_n 2, 1) := by decide +kernel
theorem dX1_addRollToTable_11 : decode cX1_addRollToTable 11 = .ok (.ifCond .le 34, 3) := by decide +kernel
theorem dX1_addRollToTable_14 : decode cX1_addRollToTable 14 = .ok (.aload_n 0, 1) := by decide +kernel
theorem dX1_addRollToTable_15 : decode cX1_addRollToTable 15 = .ok (.getfield 27, 3) := by decide +kernel
theorem dX1_addRollToTable_18 : decode cX1_addRollToTable 18 = .ok (.iload_n 2, 1) := by decide +kernel
theorem dX1_addRollToTable_19 : decode cX1_addRollToTable 19 = .ok (.aload_n 0, 1) := by decide +kernel
theorem dX1_addRollToTable_20 : decode cX1_addRollToTable 20 = .ok (.getfield 27, 3) := by decide +kernel
theorem dX1_addRollToTable_23 : decode cX1_addRollToTable 23 = .ok (.iload_n 2, 1) := by decide +kernel
theorem dX1_addRollToTable_24 : decode cX1_addRollToTable 24 = .ok (.iaload, 1) := by decide +kernel
theorem dX1_addRollToTable_25 : decode cX1_addRollToTable 25 = .ok (.aload_n 0, 1) := by decide +kernel
theorem dX1_addRollToTable_26 : decode cX1_addRollToTable 26 = .ok (.getfield 27, 3) := by decide +kernel
theorem dX1_addRollToTable_29 : decode cX1_addRollToTable 29 = .ok (.iload_n 2, 1) := by decide +kernel
theorem dX1_addRollToTable_30 : decode cX1_addRollToTable 30 = .ok (.iload_n 1, 1) := by decide +kernel
theorem dX1_addRollToTable_31 : decode cX1_addRollToTable 31 = .ok (.isub, 1) := by decide +kernel
theorem dX1_addRollToTable_32 : decode cX1_addRollToTable 32 = .ok (.iaload, 1) := by decide +kernel
theorem dX1_addRollToTable_33 : decode cX1_addRollToTable 33 = .ok (.iconst 1, 1) := by decide +kernel
theorem dX1_addRollToTable_34 : decode cX1_addRollToTable 34 = .ok (.iadd, 1) := by decide +kernel
theorem dX1_addRollToTable_35 : decode cX1_addRollToTable 35 = .ok (.invokestatic 30, 3) := by decide +kernel
theorem dX1_addRollToTable_38 : decode cX1_addRollToTable 38 = .ok (.iastore, 1) := by decide +kernel
theorem dX1_addRollToTable_39 : decode cX1_addRollToTable 39 = .ok (.iinc 2 (-1), 3) := by decide +kernel
theorem dX1_addRollToTable_42 : decode cX1_addRollToTable 42 = .ok (.goto (-37), 3) := by decide +kernel
theorem dX1_addRollToTable_45 : decode cX1_addRollToTable 45 = .ok (.return_, 1) := by decide +kernel
theorem dX2_init_0 : decode cX2_init 0 = .ok (.aload_n 0, 1) := by decide +kernel
theorem dX2_init_1 : decode cX2_init 1 = .ok (.invokespecial 3, 3) := by decide +kernel
theorem dX2_init_4 : decode cX2_init 4 = .ok (.aload_n 0, 1) := by decide +kernel
theorem dX2_init_5 : decode cX2_init 5 = .ok (.sipush 400, 3) := by decide +kernel
theorem dX2_init_8 : decode cX2_init 8 = .ok (.newarray .char, 2) := by decide +kernel
theorem dX2_init_10 : decode cX2_init 10 = .ok (.putfield 9, 3) := by decide +kernel
theorem dX2_init_13 : decode cX2_init 13 = .ok (.aload_n 0, 1) := by decide +kernel
theorem dX2_init_14 : decode cX2_init 14 = .ok (.sipush 400, 3) := by decide +kernel
theorem dX2_init_17 : decode cX2_init 17 = .ok (.newarray .int, 2) := by decide +kernel
theorem dX2_init_19 : decode cX2_init 19 = .ok (.putfield 15, 3) := by decide +kernel
theorem dX2_init_22 : decode cX2_init 22 = .ok (.aload_n 0, 1) := by decide +kernel
theorem dX2_init_23 : decode cX2_init 23 = .ok (.sipush 400, 3) := by decide +kernel
theorem dX2_init_26 : decode cX2_init 26 = .ok (.newarray .int, 2) := by decide +kernel
theorem dX2_init_28 : decode cX2_init 28 = .ok (.putfield 19, 3) := by decide +kernel
theorem dX2_init_31 : decode cX2_init 31 = .ok (.aload_n 0, 1) := by decide +kernel
theorem dX2_init_32 : decode cX2_init 32 = .ok (.sipush 400, 3) := by decide +kernel
theorem dX2_init_35 : decode cX2_init 35 = .ok (.newarray .int, 2) := by decide +kernel
theorem dX2_init_37 : decode cX2_init 37 = .ok (.putfield 22, 3) := by decide +kernel
theorem dX2_init_40 : decode cX2_init 40 = .ok (.return_, 1) := by decide +kernel
theorem dX2_has_0 : decode cX2_has 0 = .ok (.iload_n 1, 1) := by decide +kernel
theorem dX2_has_1 : decode cX2_has 1 = .ok (.ifCond .lt 15, 3) := by decide +kernel
theorem dX2_has_4 : decode cX2_has 4 = .ok (.iload_n 1, 1) := by decide +kernel
theorem dX2_has_5 : decode cX2_has 5 = .ok (.aload_n 0, 1) := by decide +kernel
theorem dX2_has_6 : decode cX2_has 6 = .ok (.getfield 25, 3) := by decide +kernel
theorem dX2_has_9 : decode cX2_has 9 = .ok (.if_icmp .ge 7, 3) := by decide +kernel
theorem dX2_has_12 : decode cX2_has 12 = .ok (.iconst 1, 1) := by decide +kernel
theorem dX2_has_13 : decode cX2_has 13 = .ok (.goto 4, 3) := by decide +kernel
theorem dX2_has_16 : decode cX2_has 16 = .ok (.iconst 0, 1) := by decide +kernel
theorem dX2_has_17 : decode cX2_has 17 = .ok (.ireturn, 1) := by decide +kernel
set_option maxRecDepth 20000 in
theorem ggX2_writeNothing_X2_writeMade : GoodIn wsX2_writeNothing wsX2_writeMade := goodIn_ca (goodIn_r _ [5, 6, 7, 8, 9, 10, 11, 12, 13, 14, 15, 16, 17, 18, 19, 20, 21, 22, 23, 24] (by decide +kernel) (by decide +kernel)) (goodIn_sub (fun _ h => List.mem_cons_of_mem _ (List.mem_append_right _ h)) (by decide +kernel))
set_option maxRecDepth 20000 in
theorem gX2_writeNothing_X2_writeMade : GoodIn wsX2_writeNothing (wsV RX2 29 RX2 yX2_writeMade wsX2_writeMade) := goodIn_app (goodIn_of _ (by decide +kernel)) ggX2_writeNothing_X2_writeMade
theorem dX2_writeNothing_0 : decode cX2_writeNothing 0 = .ok (.aload_n 0, 1) := by decide +kernel
theorem dX2_writeNothing_1 : decode cX2_writeNothing 1 = .ok (.bipush 110, 2) := by decide +kernel
theorem dX2_writeNothing_3 : decode cX2_writeNothing 3 = .ok (.iconst 0, 1) := by decide +kernel
theorem dX2_writeNothing_4 : decode cX2_writeNothing 4 = .ok (.iconst 0, 1) := by decide +kernel
theorem dX2_writeNothing_5 : decode cX2_writeNothing 5 = .ok (.iconst 0, 1) := by decide +kernel
theorem dX2_writeNothing_6 : decode cX2_writeNothing 6 = .ok (.invokevirtual 29, 3) := by decide +kernel
theorem dX2_writeNothing_9 : decode cX2_writeNothing 9 = .ok (.return_, 1) := by decide +kernel
theorem dX2_writeMade_0 : decode cX2_writeMade 0 = .ok (.aload_n 0, 1) := by decide +kernel
theorem dX2_writeMade_1 : decode cX2_writeMade 1 = .ok (.getfield 25, 3) := by decide +kernel
theorem dX2_writeMade_4 : decode cX2_writeMade 4 = .ok (.ifCond .lt 13, 3) := by decide +kernel
theorem dX2_writeMade_7 : decode cX2_writeMade 7 = .ok (.aload_n 0, 1) := by decide +kernel
theorem dX2_writeMade_8 : decode cX2_writeMade 8 = .ok (.getfield 25, 3) := by decide +kernel
theorem dX2_writeMade_11 : decode cX2_writeMade 11 = .ok (.sipush 400, 3) := by decide +kernel
theorem dX2_writeMade_14 : decode cX2_writeMade 14 = .ok (.if_icmp .lt 4, 3) := by decide +kernel
theorem dX2_writeMade_17 : decode cX2_writeMade 17 = .ok (.return_, 1) := by decide +kernel
theorem dX2_writeMade_18 : decode cX2_writeMade 18 = .ok (.aload_n 0, 1) := by decide +kernel
theorem dX2_writeMade_19 : decode cX2_writeMade 19 = .ok (.getfield 9, 3) := by decide +kernel
theorem dX2_writeMade_22 : decode cX2_writeMade 22 = .ok (.aload_n 0, 1) := by decide +kernel
theorem dX2_writeMade_23 : decode cX2_writeMade 23 = .ok (.getfield 25, 3) := by decide +kernel
theorem dX2_writeMade_26 : decode cX2_writeMade 26 = .ok (.iload_n 1, 1) := by decide +kernel
theorem dX2_writeMade_27 : decode cX2_writeMade 27 = .ok (.castore, 1) := by decide +kernel
theorem dX2_writeMade_28 : decode cX2_writeMade 28 = .ok (.aload_n 0, 1) := by decide +kernel
theorem dX2_writeMade_29 : decode cX2_writeMade 29 = .ok (.getfield 15, 3) := by decide +kernel
theorem dX2_writeMade_32 : decode cX2_writeMade 32 = .ok (.aload_n 0, 1) := by decide +kernel
theorem dX2_writeMade_33 : decode cX2_writeMade 33 = .ok (.getfield 25, 3) := by decide +kernel
theorem dX2_writeMade_36 : decode cX2_writeMade 36 = .ok (.iload_n 2, 1) := by decide +kernel
theorem dX2_writeMade_37 : decode cX2_writeMade 37 = .ok (.iastore, 1) := by decide +kernel
theorem dX2_writeMade_38 : decode cX2_writeMade 38 = .ok (.aload_n 0, 1) := by decide +kernel
theorem dX2_writeMade_39 : decode cX2_writeMade 39 = .ok (.getfield 19, 3) := by decide +kernel
theorem dX2_writeMade_42 : decode cX2_writeMade 42 = .ok (.aload_n 0, 1) := by decide +kernel
theorem dX2_writeMade_43 : decode cX2_writeMade 43 = .ok (.getfield 25, 3) := by decide +kernel
theorem dX2_writeMade_46 : decode cX2_writeMade 46 = .ok (.iload_n 3, 1) := by decide +kernel
theorem dX2_writeMade_47 : decode cX2_writeMade 47 = .ok (.iastore, 1) := by decide +kernel
theorem dX2_writeMade_48 : decode cX2_writeMade 48 = .ok (.aload_n 0, 1) := by decide +kernel
theorem dX2_writeMade_49 : decode cX2_writeMade 49 = .ok (.getfield 22, 3) := by decide +kernel
theorem dX2_writeMade_52 : decode cX2_writeMade 52 = .ok (.aload_n 0, 1) := by decide +kernel
theorem dX2_writeMade_53 : decode cX2_writeMade 53 = .ok (.getfield 25, 3) := by decide +kernel
theorem dX2_writeMade_56 : decode cX2_writeMade 56 = .ok (.iload 4, 2) := by decide +kernel
theorem dX2_writeMade_58 : decode cX2_writeMade 58 = .ok (.iastore, 1) := by decide +kernel
theorem dX2_writeMade_59 : decode cX2_writeMade 59 = .ok (.aload_n 0, 1) := by decide +kernel
theorem dX2_writeMade_60 : decode cX2_writeMade 60 = .ok (.dup, 1) := by decide +kernel
theorem dX2_writeMade_61 : decode cX2_writeMade 61 = .ok (.getfield 25, 3) := by decide +kernel
theorem dX2_writeMade_64 : decode cX2_writeMade 64 = .ok (.iconst 1, 1) := by decide +kernel
theorem dX2_writeMade_65 : decode cX2_writeMade 65 = .ok (.iadd, 1) := by decide +kernel
theorem dX2_writeMade_66 : decode cX2_writeMade 66 = .ok (.putfield 25, 3) := by decide +kernel
theorem dX2_writeMade_69 : decode cX2_writeMade 69 = .ok (.aload_n 0, 1) := by decide +kernel
theorem dX2_writeMade_70 : decode cX2_writeMade 70 = .ok (.dup, 1) := by decide +kernel
theorem dX2_writeMade_71 : decode cX2_writeMade 71 = .ok (.getfield 33, 3) := by decide +kernel
theorem dX2_writeMade_74 : decode cX2_writeMade 74 = .ok (.iload_n 2, 1) := by decide +kernel
theorem dX2_writeMade_75 : decode cX2_writeMade 75 = .ok (.i2l, 1) := by decide +kernel
theorem dX2_writeMade_76 : decode cX2_writeMade 76 = .ok (.ladd, 1) := by decide +kernel
theorem dX2_writeMade_77 : decode cX2_writeMade 77 = .ok (.putfield 33, 3) := by decide +kernel
theorem dX2_writeMade_80 : decode cX2_writeMade 80 = .ok (.aload_n 0, 1) := by decide +kernel
theorem dX2_writeMade_81 : decode cX2_writeMade 81 = .ok (.dup, 1) := by decide +kernel
theorem dX2_writeMade_82 : decode cX2_writeMade 82 = .ok (.getfield 37, 3) := by decide +kernel
theorem dX2_writeMade_85 : decode cX2_writeMade 85 = .ok (.iload_n 3, 1) := by decide +kernel
theorem dX2_writeMade_86 : decode cX2_writeMade 86 = .ok (.i2l, 1) := by decide +kernel
theorem dX2_writeMade_87 : decode cX2_writeMade 87 = .ok (.ladd, 1) := by decide +kernel
theorem dX2_writeMade_88 : decode cX2_writeMade 88 = .ok (.putfield 37, 3) := by decide +kernel
theorem dX2_writeMade_91 : decode cX2_writeMade 91 = .ok (.aload_n 0, 1) := by decide +kernel
theorem dX2_writeMade_92 : decode cX2_writeMade 92 = .ok (.dup, 1) := by decide +kernel
theorem dX2_writeMade_93 : decode cX2_writeMade 93 = .ok (.getfield 40, 3) := by decide +kernel
theorem dX2_writeMade_96 : decode cX2_writeMade 96 = .ok (.iload 4, 2) := by decide +kernel
theorem dX2_writeMade_98 : decode cX2_writeMade 98 = .ok (.i2l, 1) := by decide +kernel
theorem dX2_writeMade_99 : decode cX2_writeMade 99 = .ok (.ladd, 1) := by decide +kernel
theorem dX2_writeMade_100 : decode cX2_writeMade 100 = .ok (.putfield 40, 3) := by decide +kernel
theorem dX2_writeMade_103 : decode cX2_writeMade 103 = .ok (.return_, 1) := by decide +kernel
theorem dX2_writeTrim_0 : decode cX2_writeTrim 0 = .ok (.aload_n 0, 1) := by decide +kernel
theorem dX2_writeTrim_1 : decode cX2_writeTrim 1 = .ok (.dup, 1) := by decide +kernel
theorem dX2_writeTrim_2 : decode cX2_writeTrim 2 = .ok (.getfield 43, 3) := by decide +kernel
theorem dX2_writeTrim_5 : decode cX2_writeTrim 5 = .ok (.iload_n 1, 1) := by decide +kernel
theorem dX2_writeTrim_6 : decode cX2_writeTrim 6 = .ok (.i2l, 1) := by decide +kernel
theorem dX2_writeTrim_7 : decode cX2_writeTrim 7 = .ok (.ladd, 1) := by decide +kernel
theorem dX2_writeTrim_8 : decode cX2_writeTrim 8 = .ok (.putfield 43, 3) := by decide +kernel
theorem dX2_writeTrim_11 : decode cX2_writeTrim 11 = .ok (.aload_n 0, 1) := by decide +kernel
theorem dX2_writeTrim_12 : decode cX2_writeTrim 12 = .ok (.dup, 1) := by decide +kernel
theorem dX2_writeTrim_13 : decode cX2_writeTrim 13 = .ok (.getfield 46, 3) := by decide +kernel
theorem dX2_writeTrim_16 : decode cX2_writeTrim 16 = .ok (.iconst 1, 1) := by decide +kernel
theorem dX2_writeTrim_17 : decode cX2_writeTrim 17 = .ok (.iadd, 1) := by decide +kernel
theorem dX2_writeTrim_18 : decode cX2_writeTrim 18 = .ok (.putfield 46, 3) := by decide +kernel
theorem dX2_writeTrim_21 : decode cX2_writeTrim 21 = .ok (.return_, 1) := by decide +kernel
theorem dX2_fibreStillThere_0 : decode cX2_fibreStillThere 0 = .ok (.iconst 0, 1) := by decide +kernel
theorem dX2_fibreStillThere_1 : decode cX2_fibreStillThere 1 = .ok (.istore_n 1, 1) := by decide +kernel
theorem dX2_fibreStillThere_2 : decode cX2_fibreStillThere 2 = .ok (.iconst 0, 1) := by decide +kernel
theorem dX2_fibreStillThere_3 : decode cX2_fibreStillThere 3 = .ok (.istore_n 2, 1) := by decide +kernel
theorem dX2_fibreStillThere_4 : decode cX2_fibreStillThere 4 = .ok (.iload_n 2, 1) := by decide +kernel
theorem dX2_fibreStillThere_5 : decode cX2_fibreStillThere 5 = .ok (.aload_n 0, 1) := by decide +kernel
theorem dX2_fibreStillThere_6 : decode cX2_fibreStillThere 6 = .ok (.getfield 25, 3) := by decide +kernel
theorem dX2_fibreStillThere_9 : decode cX2_fibreStillThere 9 = .ok (.if_icmp .ge 32, 3) := by decide +kernel
theorem dX2_fibreStillThere_12 : decode cX2_fibreStillThere 12 = .ok (.iload_n 1, 1) := by decide +kernel
theorem dX2_fibreStillThere_13 : decode cX2_fibreStillThere 13 = .ok (.aload_n 0, 1) := by decide +kernel
theorem dX2_fibreStillThere_14 : decode cX2_fibreStillThere 14 = .ok (.getfield 15, 3) := by decide +kernel
theorem dX2_fibreStillThere_17 : decode cX2_fibreStillThere 17 = .ok (.iload_n 2, 1) := by decide +kernel
theorem dX2_fibreStillThere_18 : decode cX2_fibreStillThere 18 = .ok (.iaload, 1) := by decide +kernel
theorem dX2_fibreStillThere_19 : decode cX2_fibreStillThere 19 = .ok (.aload_n 0, 1) := by decide +kernel
theorem dX2_fibreStillThere_20 : decode cX2_fibreStillThere 20 = .ok (.getfield 19, 3) := by decide +kernel
theorem dX2_fibreStillThere_23 : decode cX2_fibreStillThere 23 = .ok (.iload_n 2, 1) := by decide +kernel
theorem dX2_fibreStillThere_24 : decode cX2_fibreStillThere 24 = .ok (.iaload, 1) := by decide +kernel
theorem dX2_fibreStillThere_25 : decode cX2_fibreStillThere 25 = .ok (.isub, 1) := by decide +kernel
theorem dX2_fibreStillThere_26 : decode cX2_fibreStillThere 26 = .ok (.aload_n 0, 1) := by decide +kernel
theorem dX2_fibreStillThere_27 : decode cX2_fibreStillThere 27 = .ok (.getfield 22, 3) := by decide +kernel
theorem dX2_fibreStillThere_30 : decode cX2_fibreStillThere 30 = .ok (.iload_n 2, 1) := by decide +kernel
theorem dX2_fibreStillThere_31 : decode cX2_fibreStillThere 31 = .ok (.iaload, 1) := by decide +kernel
theorem dX2_fibreStillThere_32 : decode cX2_fibreStillThere 32 = .ok (.isub, 1) := by decide +kernel
theorem dX2_fibreStillThere_33 : decode cX2_fibreStillThere 33 = .ok (.iadd, 1) := by decide +kernel
theorem dX2_fibreStillThere_34 : decode cX2_fibreStillThere 34 = .ok (.istore_n 1, 1) := by decide +kernel
theorem dX2_fibreStillThere_35 : decode cX2_fibreStillThere 35 = .ok (.iinc 2 1, 3) := by decide +kernel
theorem dX2_fibreStillThere_38 : decode cX2_fibreStillThere 38 = .ok (.goto (-34), 3) := by decide +kernel
theorem dX2_fibreStillThere_41 : decode cX2_fibreStillThere 41 = .ok (.iload_n 1, 1) := by decide +kernel
theorem dX2_fibreStillThere_42 : decode cX2_fibreStillThere 42 = .ok (.ireturn, 1) := by decide +kernel
theorem dX3_init_0 : decode cX3_init 0 = .ok (.aload_n 0, 1) := by decide +kernel
theorem dX3_init_1 : decode cX3_init 1 = .ok (.invokespecial 3, 3) := by decide +kernel
theorem dX3_init_4 : decode cX3_init 4 = .ok (.aload_n 0, 1) := by decide +kernel
theorem dX3_init_5 : decode cX3_init 5 = .ok (.bipush 10, 2) := by decide +kernel
theorem dX3_init_7 : decode cX3_init 7 = .ok (.newarray .int, 2) := by decide +kernel
theorem dX3_init_9 : decode cX3_init 9 = .ok (.putfield 9, 3) := by decide +kernel
theorem dX3_init_12 : decode cX3_init 12 = .ok (.aload_n 0, 1) := by decide +kernel
theorem dX3_init_13 : decode cX3_init 13 = .ok (.bipush 10, 2) := by decide +kernel
theorem dX3_init_15 : decode cX3_init 15 = .ok (.newarray .int, 2) := by decide +kernel
theorem dX3_init_17 : decode cX3_init 17 = .ok (.putfield 15, 3) := by decide +kernel
theorem dX3_init_20 : decode cX3_init 20 = .ok (.aload_n 0, 1) := by decide +kernel
theorem dX3_init_21 : decode cX3_init 21 = .ok (.bipush 10, 2) := by decide +kernel
theorem dX3_init_23 : decode cX3_init 23 = .ok (.newarray .int, 2) := by decide +kernel
theorem dX3_init_25 : decode cX3_init 25 = .ok (.putfield 18, 3) := by decide +kernel
theorem dX3_init_28 : decode cX3_init 28 = .ok (.aload_n 0, 1) := by decide +kernel
theorem dX3_init_29 : decode cX3_init 29 = .ok (.bipush 10, 2) := by decide +kernel
theorem dX3_init_31 : decode cX3_init 31 = .ok (.newarray .int, 2) := by decide +kernel
theorem dX3_init_33 : decode cX3_init 33 = .ok (.putfield 21, 3) := by decide +kernel
theorem dX3_init_36 : decode cX3_init 36 = .ok (.return_, 1) := by decide +kernel
theorem dX3_has_0 : decode cX3_has 0 = .ok (.iload_n 1, 1) := by decide +kernel
theorem dX3_has_1 : decode cX3_has 1 = .ok (.ifCond .lt 15, 3) := by decide +kernel
theorem dX3_has_4 : decode cX3_has 4 = .ok (.iload_n 1, 1) := by decide +kernel
theorem dX3_has_5 : decode cX3_has 5 = .ok (.aload_n 0, 1) := by decide +kernel
theorem dX3_has_6 : decode cX3_has 6 = .ok (.getfield 24, 3) := by decide +kernel
theorem dX3_has_9 : decode cX3_has 9 = .ok (.if_icmp .ge 7, 3) := by decide +kernel
theorem dX3_has_12 : decode cX3_has 12 = .ok (.iconst 1, 1) := by decide +kernel
theorem dX3_has_13 : decode cX3_has 13 = .ok (.goto 4, 3) := by decide +kernel
theorem dX3_has_16 : decode cX3_has 16 = .ok (.iconst 0, 1) := by decide +kernel
theorem dX3_has_17 : decode cX3_has 17 = .ok (.ireturn, 1) := by decide +kernel
theorem dX3_isFull_0 : decode cX3_isFull 0 = .ok (.aload_n 0, 1) := by decide +kernel
theorem dX3_isFull_1 : decode cX3_isFull 1 = .ok (.getfield 24, 3) := by decide +kernel
theorem dX3_isFull_4 : decode cX3_isFull 4 = .ok (.bipush 10, 2) := by decide +kernel
theorem dX3_isFull_6 : decode cX3_isFull 6 = .ok (.if_icmp .lt 7, 3) := by decide +kernel
theorem dX3_isFull_9 : decode cX3_isFull 9 = .ok (.iconst 1, 1) := by decide +kernel
theorem dX3_isFull_10 : decode cX3_isFull 10 = .ok (.goto 4, 3) := by decide +kernel
theorem dX3_isFull_13 : decode cX3_isFull 13 = .ok (.iconst 0, 1) := by decide +kernel
theorem dX3_isFull_14 : decode cX3_isFull 14 = .ok (.ireturn, 1) := by decide +kernel
set_option maxRecDepth 20000 in
theorem ggX3_write_X3_isFull : GoodIn wsX3_write wsX3_isFull := goodIn_r _ [10, 1, 11, 12, 13, 14, 15] (by decide +kernel) (by decide +kernel)
set_option maxRecDepth 20000 in
theorem gX3_write_X3_isFull : GoodIn wsX3_write (wsV RX3 28 RX3 yX3_isFull wsX3_isFull) := goodIn_app (goodIn_of _ (by decide +kernel)) ggX3_write_X3_isFull
theorem dX3_write_0 : decode cX3_write 0 = .ok (.aload_n 0, 1) := by decide +kernel
theorem dX3_write_1 : decode cX3_write 1 = .ok (.invokevirtual 28, 3) := by decide +kernel
theorem dX3_write_4 : decode cX3_write 4 = .ok (.ifCond .eq 5, 3) := by decide +kernel
theorem dX3_write_7 : decode cX3_write 7 = .ok (.iconst (-1), 1) := by decide +kernel
theorem dX3_write_8 : decode cX3_write 8 = .ok (.ireturn, 1) := by decide +kernel
theorem dX3_write_9 : decode cX3_write 9 = .ok (.aload_n 0, 1) := by decide +kernel
theorem dX3_write_10 : decode cX3_write 10 = .ok (.getfield 24, 3) := by decide +kernel
theorem dX3_write_13 : decode cX3_write 13 = .ok (.istore 4, 2) := by decide +kernel
theorem dX3_write_15 : decode cX3_write 15 = .ok (.aload_n 0, 1) := by decide +kernel
theorem dX3_write_16 : decode cX3_write 16 = .ok (.getfield 9, 3) := by decide +kernel
theorem dX3_write_19 : decode cX3_write 19 = .ok (.iload 4, 2) := by decide +kernel
theorem dX3_write_21 : decode cX3_write 21 = .ok (.iload_n 1, 1) := by decide +kernel
theorem dX3_write_22 : decode cX3_write 22 = .ok (.iastore, 1) := by decide +kernel
theorem dX3_write_23 : decode cX3_write 23 = .ok (.aload_n 0, 1) := by decide +kernel
theorem dX3_write_24 : decode cX3_write 24 = .ok (.getfield 15, 3) := by decide +kernel
theorem dX3_write_27 : decode cX3_write 27 = .ok (.iload 4, 2) := by decide +kernel
theorem dX3_write_29 : decode cX3_write 29 = .ok (.iload_n 2, 1) := by decide +kernel
theorem dX3_write_30 : decode cX3_write 30 = .ok (.iastore, 1) := by decide +kernel
theorem dX3_write_31 : decode cX3_write 31 = .ok (.aload_n 0, 1) := by decide +kernel
theorem dX3_write_32 : decode cX3_write 32 = .ok (.getfield 18, 3) := by decide +kernel
theorem dX3_write_35 : decode cX3_write 35 = .ok (.iload 4, 2) := by decide +kernel
theorem dX3_write_37 : decode cX3_write 37 = .ok (.iconst 0, 1) := by decide +kernel
theorem dX3_write_38 : decode cX3_write 38 = .ok (.iastore, 1) := by decide +kernel
theorem dX3_write_39 : decode cX3_write 39 = .ok (.aload_n 0, 1) := by decide +kernel
theorem dX3_write_40 : decode cX3_write 40 = .ok (.getfield 21, 3) := by decide +kernel
theorem dX3_write_43 : decode cX3_write 43 = .ok (.iload 4, 2) := by decide +kernel
theorem dX3_write_45 : decode cX3_write 45 = .ok (.iload_n 3, 1) := by decide +kernel
theorem dX3_write_46 : decode cX3_write 46 = .ok (.iastore, 1) := by decide +kernel
theorem dX3_write_47 : decode cX3_write 47 = .ok (.aload_n 0, 1) := by decide +kernel
theorem dX3_write_48 : decode cX3_write 48 = .ok (.dup, 1) := by decide +kernel
theorem dX3_write_49 : decode cX3_write 49 = .ok (.getfield 24, 3) := by decide +kernel
theorem dX3_write_52 : decode cX3_write 52 = .ok (.iconst 1, 1) := by decide +kernel
theorem dX3_write_53 : decode cX3_write 53 = .ok (.iadd, 1) := by decide +kernel
theorem dX3_write_54 : decode cX3_write 54 = .ok (.putfield 24, 3) := by decide +kernel
theorem dX3_write_57 : decode cX3_write 57 = .ok (.iload 4, 2) := by decide +kernel
theorem dX3_write_59 : decode cX3_write 59 = .ok (.ireturn, 1) := by decide +kernel
theorem dX3_widestOpen_0 : decode cX3_widestOpen 0 = .ok (.iconst 0, 1) := by decide +kernel
theorem dX3_widestOpen_1 : decode cX3_widestOpen 1 = .ok (.istore_n 1, 1) := by decide +kernel
theorem dX3_widestOpen_2 : decode cX3_widestOpen 2 = .ok (.iconst 0, 1) := by decide +kernel
theorem dX3_widestOpen_3 : decode cX3_widestOpen 3 = .ok (.istore_n 2, 1) := by decide +kernel
theorem dX3_widestOpen_4 : decode cX3_widestOpen 4 = .ok (.iload_n 2, 1) := by decide +kernel
theorem dX3_widestOpen_5 : decode cX3_widestOpen 5 = .ok (.aload_n 0, 1) := by decide +kernel
theorem dX3_widestOpen_6 : decode cX3_widestOpen 6 = .ok (.getfield 24, 3) := by decide +kernel
theorem dX3_widestOpen_9 : decode cX3_widestOpen 9 = .ok (.if_icmp .ge 29, 3) := by decide +kernel
theorem dX3_widestOpen_12 : decode cX3_widestOpen 12 = .ok (.aload_n 0, 1) := by decide +kernel
theorem dX3_widestOpen_13 : decode cX3_widestOpen 13 = .ok (.getfield 21, 3) := by decide +kernel
theorem dX3_widestOpen_16 : decode cX3_widestOpen 16 = .ok (.iload_n 2, 1) := by decide +kernel
theorem dX3_widestOpen_17 : decode cX3_widestOpen 17 = .ok (.iaload, 1) := by decide +kernel
theorem dX3_widestOpen_18 : decode cX3_widestOpen 18 = .ok (.ifCond .le 14, 3) := by decide +kernel
theorem dX3_widestOpen_21 : decode cX3_widestOpen 21 = .ok (.iload_n 1, 1) := by decide +kernel
theorem dX3_widestOpen_22 : decode cX3_widestOpen 22 = .ok (.aload_n 0, 1) := by decide +kernel
theorem dX3_widestOpen_23 : decode cX3_widestOpen 23 = .ok (.getfield 15, 3) := by decide +kernel
theorem dX3_widestOpen_26 : decode cX3_widestOpen 26 = .ok (.iload_n 2, 1) := by decide +kernel
theorem dX3_widestOpen_27 : decode cX3_widestOpen 27 = .ok (.iaload, 1) := by decide +kernel
theorem dX3_widestOpen_28 : decode cX3_widestOpen 28 = .ok (.invokestatic 32, 3) := by decide +kernel
theorem dX3_widestOpen_31 : decode cX3_widestOpen 31 = .ok (.istore_n 1, 1) := by decide +kernel
theorem dX3_widestOpen_32 : decode cX3_widestOpen 32 = .ok (.iinc 2 1, 3) := by decide +kernel
theorem dX3_widestOpen_35 : decode cX3_widestOpen 35 = .ok (.goto (-31), 3) := by decide +kernel
theorem dX3_widestOpen_38 : decode cX3_widestOpen 38 = .ok (.iload_n 1, 1) := by decide +kernel
theorem dX3_widestOpen_39 : decode cX3_widestOpen 39 = .ok (.ireturn, 1) := by decide +kernel
theorem dX3_rollsLacking_0 : decode cX3_rollsLacking 0 = .ok (.iconst 0, 1) := by decide +kernel
theorem dX3_rollsLacking_1 : decode cX3_rollsLacking 1 = .ok (.istore_n 2, 1) := by decide +kernel
theorem dX3_rollsLacking_2 : decode cX3_rollsLacking 2 = .ok (.iconst 0, 1) := by decide +kernel
theorem dX3_rollsLacking_3 : decode cX3_rollsLacking 3 = .ok (.istore_n 3, 1) := by decide +kernel
theorem dX3_rollsLacking_4 : decode cX3_rollsLacking 4 = .ok (.iload_n 3, 1) := by decide +kernel
theorem dX3_rollsLacking_5 : decode cX3_rollsLacking 5 = .ok (.aload_n 0, 1) := by decide +kernel
theorem dX3_rollsLacking_6 : decode cX3_rollsLacking 6 = .ok (.getfield 24, 3) := by decide +kernel
theorem dX3_rollsLacking_9 : decode cX3_rollsLacking 9 = .ok (.if_icmp .ge 28, 3) := by decide +kernel
theorem dX3_rollsLacking_12 : decode cX3_rollsLacking 12 = .ok (.aload_n 0, 1) := by decide +kernel
theorem dX3_rollsLacking_13 : decode cX3_rollsLacking 13 = .ok (.getfield 9, 3) := by decide +kernel
theorem dX3_rollsLacking_16 : decode cX3_rollsLacking 16 = .ok (.iload_n 3, 1) := by decide +kernel
theorem dX3_rollsLacking_17 : decode cX3_rollsLacking 17 = .ok (.iaload, 1) := by decide +kernel
theorem dX3_rollsLacking_18 : decode cX3_rollsLacking 18 = .ok (.iload_n 1, 1) := by decide +kernel
theorem dX3_rollsLacking_19 : decode cX3_rollsLacking 19 = .ok (.if_icmp .ne 12, 3) := by decide +kernel
theorem dX3_rollsLacking_22 : decode cX3_rollsLacking 22 = .ok (.iload_n 2, 1) := by decide +kernel
theorem dX3_rollsLacking_23 : decode cX3_rollsLacking 23 = .ok (.aload_n 0, 1) := by decide +kernel
theorem dX3_rollsLacking_24 : decode cX3_rollsLacking 24 = .ok (.getfield 21, 3) := by decide +kernel
theorem dX3_rollsLacking_27 : decode cX3_rollsLacking 27 = .ok (.iload_n 3, 1) := by decide +kernel
theorem dX3_rollsLacking_28 : decode cX3_rollsLacking 28 = .ok (.iaload, 1) := by decide +kernel
theorem dX3_rollsLacking_29 : decode cX3_rollsLacking 29 = .ok (.iadd, 1) := by decide +kernel
theorem dX3_rollsLacking_30 : decode cX3_rollsLacking 30 = .ok (.istore_n 2, 1) := by decide +kernel
theorem dX3_rollsLacking_31 : decode cX3_rollsLacking 31 = .ok (.iinc 3 1, 3) := by decide +kernel
theorem dX3_rollsLacking_34 : decode cX3_rollsLacking 34 = .ok (.goto (-30), 3) := by decide +kernel
theorem dX3_rollsLacking_37 : decode cX3_rollsLacking 37 = .ok (.iload_n 2, 1) := by decide +kernel
theorem dX3_rollsLacking_38 : decode cX3_rollsLacking 38 = .ok (.ireturn, 1) := by decide +kernel
theorem dX3_widthLacking_0 : decode cX3_widthLacking 0 = .ok (.iconst 0, 1) := by decide +kernel
theorem dX3_widthLacking_1 : decode cX3_widthLacking 1 = .ok (.istore_n 2, 1) := by decide +kernel
theorem dX3_widthLacking_2 : decode cX3_widthLacking 2 = .ok (.iconst 0, 1) := by decide +kernel
theorem dX3_widthLacking_3 : decode cX3_widthLacking 3 = .ok (.istore_n 3, 1) := by decide +kernel
theorem dX3_widthLacking_4 : decode cX3_widthLacking 4 = .ok (.iload_n 3, 1) := by decide +kernel
theorem dX3_widthLacking_5 : decode cX3_widthLacking 5 = .ok (.aload_n 0, 1) := by decide +kernel
theorem dX3_widthLacking_6 : decode cX3_widthLacking 6 = .ok (.getfield 24, 3) := by decide +kernel
theorem dX3_widthLacking_9 : decode cX3_widthLacking 9 = .ok (.if_icmp .ge 35, 3) := by decide +kernel
theorem dX3_widthLacking_12 : decode cX3_widthLacking 12 = .ok (.aload_n 0, 1) := by decide +kernel
theorem dX3_widthLacking_13 : decode cX3_widthLacking 13 = .ok (.getfield 9, 3) := by decide +kernel
theorem dX3_widthLacking_16 : decode cX3_widthLacking 16 = .ok (.iload_n 3, 1) := by decide +kernel
theorem dX3_widthLacking_17 : decode cX3_widthLacking 17 = .ok (.iaload, 1) := by decide +kernel
theorem dX3_widthLacking_18 : decode cX3_widthLacking 18 = .ok (.iload_n 1, 1) := by decide +kernel
theorem dX3_widthLacking_19 : decode cX3_widthLacking 19 = .ok (.if_icmp .ne 19, 3) := by decide +kernel
theorem dX3_widthLacking_22 : decode cX3_widthLacking 22 = .ok (.iload_n 2, 1) := by decide +kernel
theorem dX3_widthLacking_23 : decode cX3_widthLacking 23 = .ok (.aload_n 0, 1) := by decide +kernel
theorem dX3_widthLacking_24 : decode cX3_widthLacking 24 = .ok (.getfield 21, 3) := by decide +kernel
theorem dX3_widthLacking_27 : decode cX3_widthLacking 27 = .ok (.iload_n 3, 1) := by decide +kernel
theorem dX3_widthLacking_28 : decode cX3_widthLacking 28 = .ok (.iaload, 1) := by decide +kernel
theorem dX3_widthLacking_29 : decode cX3_widthLacking 29 = .ok (.aload_n 0, 1) := by decide +kernel
theorem dX3_widthLacking_30 : decode cX3_widthLacking 30 = .ok (.getfield 15, 3) := by decide +kernel
theorem dX3_widthLacking_33 : decode cX3_widthLacking 33 = .ok (.iload_n 3, 1) := by decide +kernel
theorem dX3_widthLacking_34 : decode cX3_widthLacking 34 = .ok (.iaload, 1) := by decide +kernel
theorem dX3_widthLacking_35 : decode cX3_widthLacking 35 = .ok (.imul, 1) := by decide +kernel
theorem dX3_widthLacking_36 : decode cX3_widthLacking 36 = .ok (.iadd, 1) := by decide +kernel
theorem dX3_widthLacking_37 : decode cX3_widthLacking 37 = .ok (.istore_n 2, 1) := by decide +kernel
theorem dX3_widthLacking_38 : decode cX3_widthLacking 38 = .ok (.iinc 3 1, 3) := by decide +kernel
theorem dX3_widthLacking_41 : decode cX3_widthLacking 41 = .ok (.goto (-37), 3) := by decide +kernel
theorem dX3_widthLacking_44 : decode cX3_widthLacking 44 = .ok (.iload_n 2, 1) := by decide +kernel
theorem dX3_widthLacking_45 : decode cX3_widthLacking 45 = .ok (.ireturn, 1) := by decide +kernel
theorem dX3_takeOff_0 : decode cX3_takeOff 0 = .ok (.iconst 0, 1) := by decide +kernel
theorem dX3_takeOff_1 : decode cX3_takeOff 1 = .ok (.istore_n 2, 1) := by decide +kernel
theorem dX3_takeOff_2 : decode cX3_takeOff 2 = .ok (.iconst 0, 1) := by decide +kernel
theorem dX3_takeOff_3 : decode cX3_takeOff 3 = .ok (.istore_n 3, 1) := by decide +kernel
theorem dX3_takeOff_4 : decode cX3_takeOff 4 = .ok (.iload_n 3, 1) := by decide +kernel
theorem dX3_takeOff_5 : decode cX3_takeOff 5 = .ok (.aload_n 0, 1) := by decide +kernel
theorem dX3_takeOff_6 : decode cX3_takeOff 6 = .ok (.getfield 24, 3) := by decide +kernel
theorem dX3_takeOff_9 : decode cX3_takeOff 9 = .ok (.if_icmp .ge 45, 3) := by decide +kernel
theorem dX3_takeOff_12 : decode cX3_takeOff 12 = .ok (.iload_n 3, 1) := by decide +kernel
theorem dX3_takeOff_13 : decode cX3_takeOff 13 = .ok (.aload_n 1, 1) := by decide +kernel
theorem dX3_takeOff_14 : decode cX3_takeOff 14 = .ok (.arraylength, 1) := by decide +kernel
theorem dX3_takeOff_15 : decode cX3_takeOff 15 = .ok (.if_icmp .ge 39, 3) := by decide +kernel
theorem dX3_takeOff_18 : decode cX3_takeOff 18 = .ok (.aload_n 0, 1) := by decide +kernel
theorem dX3_takeOff_19 : decode cX3_takeOff 19 = .ok (.getfield 18, 3) := by decide +kernel
theorem dX3_takeOff_22 : decode cX3_takeOff 22 = .ok (.iload_n 3, 1) := by decide +kernel
theorem dX3_takeOff_23 : decode cX3_takeOff 23 = .ok (.dup2, 1) := by decide +kernel
theorem dX3_takeOff_24 : decode cX3_takeOff 24 = .ok (.iaload, 1) := by decide +kernel
theorem dX3_takeOff_25 : decode cX3_takeOff 25 = .ok (.aload_n 1, 1) := by decide +kernel
theorem dX3_takeOff_26 : decode cX3_takeOff 26 = .ok (.iload_n 3, 1) := by decide +kernel
theorem dX3_takeOff_27 : decode cX3_takeOff 27 = .ok (.iaload, 1) := by decide +kernel
theorem dX3_takeOff_28 : decode cX3_takeOff 28 = .ok (.iadd, 1) := by decide +kernel
theorem dX3_takeOff_29 : decode cX3_takeOff 29 = .ok (.iastore, 1) := by decide +kernel
theorem dX3_takeOff_30 : decode cX3_takeOff 30 = .ok (.aload_n 0, 1) := by decide +kernel
theorem dX3_takeOff_31 : decode cX3_takeOff 31 = .ok (.getfield 21, 3) := by decide +kernel
theorem dX3_takeOff_34 : decode cX3_takeOff 34 = .ok (.iload_n 3, 1) := by decide +kernel
theorem dX3_takeOff_35 : decode cX3_takeOff 35 = .ok (.dup2, 1) := by decide +kernel
theorem dX3_takeOff_36 : decode cX3_takeOff 36 = .ok (.iaload, 1) := by decide +kernel
theorem dX3_takeOff_37 : decode cX3_takeOff 37 = .ok (.aload_n 1, 1) := by decide +kernel
theorem dX3_takeOff_38 : decode cX3_takeOff 38 = .ok (.iload_n 3, 1) := by decide +kernel
theorem dX3_takeOff_39 : decode cX3_takeOff 39 = .ok (.iaload, 1) := by decide +kernel
theorem dX3_takeOff_40 : decode cX3_takeOff 40 = .ok (.isub, 1) := by decide +kernel
theorem dX3_takeOff_41 : decode cX3_takeOff 41 = .ok (.iastore, 1) := by decide +kernel
theorem dX3_takeOff_42 : decode cX3_takeOff 42 = .ok (.iload_n 2, 1) := by decide +kernel
theorem dX3_takeOff_43 : decode cX3_takeOff 43 = .ok (.aload_n 1, 1) := by decide +kernel
theorem dX3_takeOff_44 : decode cX3_takeOff 44 = .ok (.iload_n 3, 1) := by decide +kernel
theorem dX3_takeOff_45 : decode cX3_takeOff 45 = .ok (.iaload, 1) := by decide +kernel
theorem dX3_takeOff_46 : decode cX3_takeOff 46 = .ok (.iadd, 1) := by decide +kernel
theorem dX3_takeOff_47 : decode cX3_takeOff 47 = .ok (.istore_n 2, 1) := by decide +kernel
theorem dX3_takeOff_48 : decode cX3_takeOff 48 = .ok (.iinc 3 1, 3) := by decide +kernel
theorem dX3_takeOff_51 : decode cX3_takeOff 51 = .ok (.goto (-47), 3) := by decide +kernel
theorem dX3_takeOff_54 : decode cX3_takeOff 54 = .ok (.iload_n 2, 1) := by decide +kernel
theorem dX3_takeOff_55 : decode cX3_takeOff 55 = .ok (.ireturn, 1) := by decide +kernel
set_option maxRecDepth 20000 in
theorem ggX4_init_X3_init : GoodIn wsX4_init wsX3_init := goodIn_r _ [27, 28, 2, 3, 4, 29, 30, 31, 32, 69, 70, 71, 72, 73] (by decide +kernel) (by decide +kernel)
set_option maxRecDepth 20000 in
theorem gX4_init_X3_init_n26 : GoodIn wsX4_init (wsX3_init) := ggX4_init_X3_init
set_option maxRecDepth 20000 in
theorem ggX4_init_X1_init : GoodIn wsX4_init wsX1_init := goodIn_r _ [34, 35, 2, 3, 4, 36, 37, 38, 39, 40, 41, 74, 75, 76, 77, 78, 79, 80, 81] (by decide +kernel) (by decide +kernel)
set_option maxRecDepth 20000 in
theorem gX4_init_X1_init_n33 : GoodIn wsX4_init (wsX1_init) := ggX4_init_X1_init
set_option maxRecDepth 20000 in
theorem ggX4_init_X0_init : GoodIn wsX4_init wsX0_init := goodIn_r _ [43, 44, 2, 3, 45, 46, 47, 82, 83, 84] (by decide +kernel) (by decide +kernel)
set_option maxRecDepth 20000 in
theorem gX4_init_X0_init_n40 : GoodIn wsX4_init (wsX0_init) := ggX4_init_X0_init
set_option maxRecDepth 20000 in
theorem ggX4_init_X2_init : GoodIn wsX4_init wsX2_init := goodIn_r _ [49, 50, 2, 3, 51, 52, 4, 53, 54, 55, 85, 86, 87, 88, 89, 90, 91, 92, 93, 94, 95] (by decide +kernel) (by decide +kernel)
set_option maxRecDepth 20000 in
theorem gX4_init_X2_init_n47 : GoodIn wsX4_init (wsX2_init) := ggX4_init_X2_init
theorem dX4_init_0 : decode cX4_init 0 = .ok (.aload_n 0, 1) := by decide +kernel
theorem dX4_init_1 : decode cX4_init 1 = .ok (.invokespecial 1, 3) := by decide +kernel
theorem dX4_init_4 : decode cX4_init 4 = .ok (.aload_n 0, 1) := by decide +kernel
theorem dX4_init_5 : decode cX4_init 5 = .ok (.bipush 6, 2) := by decide +kernel
theorem dX4_init_7 : decode cX4_init 7 = .ok (.newarray .int, 2) := by decide +kernel
theorem dX4_init_9 : decode cX4_init 9 = .ok (.putfield 9, 3) := by decide +kernel
theorem dX4_init_12 : decode cX4_init 12 = .ok (.aload_n 0, 1) := by decide +kernel
theorem dX4_init_13 : decode cX4_init 13 = .ok (.sipush 600, 3) := by decide +kernel
theorem dX4_init_16 : decode cX4_init 16 = .ok (.putfield 13, 3) := by decide +kernel
theorem dX4_init_19 : decode cX4_init 19 = .ok (.aload_n 0, 1) := by decide +kernel
theorem dX4_init_20 : decode cX4_init 20 = .ok (.iconst (-1), 1) := by decide +kernel
theorem dX4_init_21 : decode cX4_init 21 = .ok (.putfield 17, 3) := by decide +kernel
theorem dX4_init_24 : decode cX4_init 24 = .ok (.aload_n 0, 1) := by decide +kernel
theorem dX4_init_25 : decode cX4_init 25 = .ok (.iconst 1, 1) := by decide +kernel
theorem dX4_init_26 : decode cX4_init 26 = .ok (.putfield 20, 3) := by decide +kernel
theorem dX4_init_29 : decode cX4_init 29 = .ok (.aload_n 0, 1) := by decide +kernel
theorem dX4_init_30 : decode cX4_init 30 = .ok (.new 24, 3) := by decide +kernel
theorem dX4_init_33 : decode cX4_init 33 = .ok (.dup, 1) := by decide +kernel
theorem dX4_init_34 : decode cX4_init 34 = .ok (.invokespecial 26, 3) := by decide +kernel
theorem dX4_init_37 : decode cX4_init 37 = .ok (.putfield 27, 3) := by decide +kernel
theorem dX4_init_40 : decode cX4_init 40 = .ok (.aload_n 0, 1) := by decide +kernel
theorem dX4_init_41 : decode cX4_init 41 = .ok (.new 31, 3) := by decide +kernel
theorem dX4_init_44 : decode cX4_init 44 = .ok (.dup, 1) := by decide +kernel
theorem dX4_init_45 : decode cX4_init 45 = .ok (.invokespecial 33, 3) := by decide +kernel
theorem dX4_init_48 : decode cX4_init 48 = .ok (.putfield 34, 3) := by decide +kernel
theorem dX4_init_51 : decode cX4_init 51 = .ok (.aload_n 0, 1) := by decide +kernel
theorem dX4_init_52 : decode cX4_init 52 = .ok (.new 38, 3) := by decide +kernel
theorem dX4_init_55 : decode cX4_init 55 = .ok (.dup, 1) := by decide +kernel
theorem dX4_init_56 : decode cX4_init 56 = .ok (.invokespecial 40, 3) := by decide +kernel
theorem dX4_init_59 : decode cX4_init 59 = .ok (.putfield 41, 3) := by decide +kernel
theorem dX4_init_62 : decode cX4_init 62 = .ok (.aload_n 0, 1) := by decide +kernel
theorem dX4_init_63 : decode cX4_init 63 = .ok (.new 45, 3) := by decide +kernel
theorem dX4_init_66 : decode cX4_init 66 = .ok (.dup, 1) := by decide +kernel
theorem dX4_init_67 : decode cX4_init 67 = .ok (.invokespecial 47, 3) := by decide +kernel
theorem dX4_init_70 : decode cX4_init 70 = .ok (.putfield 48, 3) := by decide +kernel
theorem dX4_init_73 : decode cX4_init 73 = .ok (.aload_n 0, 1) := by decide +kernel
theorem dX4_init_74 : decode cX4_init 74 = .ok (.bipush 20, 2) := by decide +kernel
theorem dX4_init_76 : decode cX4_init 76 = .ok (.putfield 52, 3) := by decide +kernel
theorem dX4_init_79 : decode cX4_init 79 = .ok (.return_, 1) := by decide +kernel
set_option maxRecDepth 20000 in
theorem ggX4_addGrade_X4_isWithin : GoodIn wsX4_addGrade wsX4_isWithin := goodIn_r _ [10] (by decide +kernel) (by decide +kernel)
set_option maxRecDepth 20000 in
theorem gX4_addGrade_X4_isWithin : GoodIn wsX4_addGrade (va_wsS RX4 55 yX4_isWithin wsX4_isWithin) := goodIn_app (goodIn_of _ (by decide +kernel)) ggX4_addGrade_X4_isWithin
set_option maxRecDepth 20000 in
theorem ggX4_addGrade_X4_isWeightTaken : GoodIn wsX4_addGrade wsX4_isWeightTaken := goodIn_ca (goodIn_r _ [14, 5, 6, 15, 16, 17, 18, 19, 20, 21, 22, 23, 24, 25, 26, 27] (by decide +kernel) (by decide +kernel)) (goodIn_sub (fun _ h => List.mem_cons_of_mem _ (List.mem_append_right _ h)) (by decide +kernel))
set_option maxRecDepth 20000 in
theorem gX4_addGrade_X4_isWeightTaken : GoodIn wsX4_addGrade (wsV RX4 59 RX4 yX4_isWeightTaken wsX4_isWeightTaken) := goodIn_app (goodIn_of _ (by decide +kernel)) ggX4_addGrade_X4_isWeightTaken
theorem dX4_addGrade_0 : decode cX4_addGrade 0 = .ok (.iload_n 1, 1) := by decide +kernel
theorem dX4_addGrade_1 : decode cX4_addGrade 1 = .ok (.bipush 40, 2) := by decide +kernel
theorem dX4_addGrade_3 : decode cX4_addGrade 3 = .ok (.sipush 200, 3) := by decide +kernel
theorem dX4_addGrade_6 : decode cX4_addGrade 6 = .ok (.invokestatic 55, 3) := by decide +kernel
theorem dX4_addGrade_9 : decode cX4_addGrade 9 = .ok (.ifCond .eq 11, 3) := by decide +kernel
theorem dX4_addGrade_12 : decode cX4_addGrade 12 = .ok (.aload_n 0, 1) := by decide +kernel
theorem dX4_addGrade_13 : decode cX4_addGrade 13 = .ok (.iload_n 1, 1) := by decide +kernel
theorem dX4_addGrade_14 : decode cX4_addGrade 14 = .ok (.invokevirtual 59, 3) := by decide +kernel
theorem dX4_addGrade_17 : decode cX4_addGrade 17 = .ok (.ifCond .eq 13, 3) := by decide +kernel
theorem dX4_addGrade_20 : decode cX4_addGrade 20 = .ok (.new 63, 3) := by decide +kernel
theorem dX4_addGrade_23 : decode cX4_addGrade 23 = .ok (.dup, 1) := by decide +kernel
theorem dX4_addGrade_24 : decode cX4_addGrade 24 = .ok (.ldc 65, 2) := by decide +kernel
theorem dX4_addGrade_26 : decode cX4_addGrade 26 = .ok (.invokespecial 67, 3) := by decide +kernel
theorem dX4_addGrade_29 : decode cX4_addGrade 29 = .ok (.athrow, 1) := by decide +kernel
theorem dX4_addGrade_30 : decode cX4_addGrade 30 = .ok (.aload_n 0, 1) := by decide +kernel
theorem dX4_addGrade_31 : decode cX4_addGrade 31 = .ok (.getfield 70, 3) := by decide +kernel
theorem dX4_addGrade_34 : decode cX4_addGrade 34 = .ok (.aload_n 0, 1) := by decide +kernel
theorem dX4_addGrade_35 : decode cX4_addGrade 35 = .ok (.getfield 9, 3) := by decide +kernel
theorem dX4_addGrade_38 : decode cX4_addGrade 38 = .ok (.arraylength, 1) := by decide +kernel
theorem dX4_addGrade_39 : decode cX4_addGrade 39 = .ok (.if_icmp .lt 13, 3) := by decide +kernel
theorem dX4_addGrade_42 : decode cX4_addGrade 42 = .ok (.new 73, 3) := by decide +kernel
theorem dX4_addGrade_45 : decode cX4_addGrade 45 = .ok (.dup, 1) := by decide +kernel
theorem dX4_addGrade_46 : decode cX4_addGrade 46 = .ok (.ldc 75, 2) := by decide +kernel
theorem dX4_addGrade_48 : decode cX4_addGrade 48 = .ok (.invokespecial 77, 3) := by decide +kernel
theorem dX4_addGrade_51 : decode cX4_addGrade 51 = .ok (.athrow, 1) := by decide +kernel
theorem dX4_addGrade_52 : decode cX4_addGrade 52 = .ok (.aload_n 0, 1) := by decide +kernel
theorem dX4_addGrade_53 : decode cX4_addGrade 53 = .ok (.getfield 70, 3) := by decide +kernel
theorem dX4_addGrade_56 : decode cX4_addGrade 56 = .ok (.istore_n 2, 1) := by decide +kernel
theorem dX4_addGrade_57 : decode cX4_addGrade 57 = .ok (.aload_n 0, 1) := by decide +kernel
theorem dX4_addGrade_58 : decode cX4_addGrade 58 = .ok (.getfield 9, 3) := by decide +kernel
theorem dX4_addGrade_61 : decode cX4_addGrade 61 = .ok (.iload_n 2, 1) := by decide +kernel
theorem dX4_addGrade_62 : decode cX4_addGrade 62 = .ok (.iload_n 1, 1) := by decide +kernel
theorem dX4_addGrade_63 : decode cX4_addGrade 63 = .ok (.iastore, 1) := by decide +kernel
theorem dX4_addGrade_64 : decode cX4_addGrade 64 = .ok (.aload_n 0, 1) := by decide +kernel
theorem dX4_addGrade_65 : decode cX4_addGrade 65 = .ok (.dup, 1) := by decide +kernel
theorem dX4_addGrade_66 : decode cX4_addGrade 66 = .ok (.getfield 70, 3) := by decide +kernel
theorem dX4_addGrade_69 : decode cX4_addGrade 69 = .ok (.iconst 1, 1) := by decide +kernel
theorem dX4_addGrade_70 : decode cX4_addGrade 70 = .ok (.iadd, 1) := by decide +kernel
theorem dX4_addGrade_71 : decode cX4_addGrade 71 = .ok (.putfield 70, 3) := by decide +kernel
theorem dX4_addGrade_74 : decode cX4_addGrade 74 = .ok (.iload_n 2, 1) := by decide +kernel
theorem dX4_addGrade_75 : decode cX4_addGrade 75 = .ok (.ireturn, 1) := by decide +kernel
set_option maxRecDepth 20000 in
theorem ggX4_setWidth_X4_isWithin : GoodIn wsX4_setWidth wsX4_isWithin := goodIn_r _ [10] (by decide +kernel) (by decide +kernel)
set_option maxRecDepth 20000 in
theorem gX4_setWidth_X4_isWithin : GoodIn wsX4_setWidth (va_wsS RX4 55 yX4_isWithin wsX4_isWithin) := goodIn_app (goodIn_of _ (by decide +kernel)) ggX4_setWidth_X4_isWithin
set_option maxRecDepth 20000 in
theorem ggX4_setWidth_X3_widestOpen : GoodIn wsX4_setWidth wsX3_widestOpen := goodIn_ca (goodIn_r _ [15, 16, 17, 18, 19, 20, 21, 22, 36, 37, 38, 39, 40] (by decide +kernel) (by decide +kernel)) (goodIn_sub (fun _ h => List.mem_cons_of_mem _ (List.mem_append_right _ h)) (by decide +kernel))
set_option maxRecDepth 20000 in
theorem gX4_setWidth_X3_widestOpen : GoodIn wsX4_setWidth (wsV RX4 80 RX3 yX3_widestOpen wsX3_widestOpen) := goodIn_app (goodIn_of _ (by decide +kernel)) ggX4_setWidth_X3_widestOpen
theorem dX4_setWidth_0 : decode cX4_setWidth 0 = .ok (.iload_n 1, 1) := by decide +kernel
theorem dX4_setWidth_1 : decode cX4_setWidth 1 = .ok (.sipush 200, 3) := by decide +kernel
theorem dX4_setWidth_4 : decode cX4_setWidth 4 = .ok (.sipush 800, 3) := by decide +kernel
theorem dX4_setWidth_7 : decode cX4_setWidth 7 = .ok (.invokestatic 55, 3) := by decide +kernel
theorem dX4_setWidth_10 : decode cX4_setWidth 10 = .ok (.ifCond .ne 13, 3) := by decide +kernel
theorem dX4_setWidth_13 : decode cX4_setWidth 13 = .ok (.new 63, 3) := by decide +kernel
end
section
theorem dX4_setWidth_16 : decode cX4_setWidth 16 = .ok (.dup, 1) := by decide +kernel
theorem dX4_setWidth_17 : decode cX4_setWidth 17 = .ok (.ldc 78, 2) := by decide +kernel
theorem dX4_setWidth_19 : decode cX4_setWidth 19 = .ok (.invokespecial 67, 3) := by decide +kernel
theorem dX4_setWidth_22 : decode cX4_setWidth 22 = .ok (.athrow, 1) := by decide +kernel
theorem dX4_setWidth_23 : decode cX4_setWidth 23 = .ok (.aload_n 0, 1) := by decide +kernel
theorem dX4_setWidth_24 : decode cX4_setWidth 24 = .ok (.getfield 27, 3) := by decide +kernel
theorem dX4_setWidth_27 : decode cX4_setWidth 27 = .ok (.invokevirtual 80, 3) := by decide +kernel
theorem dX4_setWidth_30 : decode cX4_setWidth 30 = .ok (.iload_n 1, 1) := by decide +kernel
theorem dX4_setWidth_31 : decode cX4_setWidth 31 = .ok (.if_icmp .le 13, 3) := by decide +kernel
theorem dX4_setWidth_34 : decode cX4_setWidth 34 = .ok (.new 73, 3) := by decide +kernel
theorem dX4_setWidth_37 : decode cX4_setWidth 37 = .ok (.dup, 1) := by decide +kernel
theorem dX4_setWidth_38 : decode cX4_setWidth 38 = .ok (.ldc 84, 2) := by decide +kernel
theorem dX4_setWidth_40 : decode cX4_setWidth 40 = .ok (.invokespecial 77, 3) := by decide +kernel
theorem dX4_setWidth_43 : decode cX4_setWidth 43 = .ok (.athrow, 1) := by decide +kernel
theorem dX4_setWidth_44 : decode cX4_setWidth 44 = .ok (.aload_n 0, 1) := by decide +kernel
theorem dX4_setWidth_45 : decode cX4_setWidth 45 = .ok (.getfield 13, 3) := by decide +kernel
theorem dX4_setWidth_48 : decode cX4_setWidth 48 = .ok (.istore_n 2, 1) := by decide +kernel
theorem dX4_setWidth_49 : decode cX4_setWidth 49 = .ok (.aload_n 0, 1) := by decide +kernel
theorem dX4_setWidth_50 : decode cX4_setWidth 50 = .ok (.iload_n 1, 1) := by decide +kernel
theorem dX4_setWidth_51 : decode cX4_setWidth 51 = .ok (.putfield 13, 3) := by decide +kernel
theorem dX4_setWidth_54 : decode cX4_setWidth 54 = .ok (.iload_n 2, 1) := by decide +kernel
theorem dX4_setWidth_55 : decode cX4_setWidth 55 = .ok (.ireturn, 1) := by decide +kernel
set_option maxRecDepth 20000 in
theorem ggX4_change_X4_isGrade : GoodIn wsX4_change wsX4_isGrade := goodIn_r _ [19, 20, 21, 22, 23, 24, 25, 26, 27, 28, 29, 30, 31, 32, 33] (by decide +kernel) (by decide +kernel)
set_option maxRecDepth 20000 in
theorem gX4_change_X4_isGrade : GoodIn wsX4_change (wsV RX4 86 RX4 yX4_isGrade wsX4_isGrade) := goodIn_app (goodIn_of _ (by decide +kernel)) ggX4_change_X4_isGrade
theorem dX4_change_0 : decode cX4_change 0 = .ok (.aload_n 0, 1) := by decide +kernel
theorem dX4_change_1 : decode cX4_change 1 = .ok (.iload_n 1, 1) := by decide +kernel
theorem dX4_change_2 : decode cX4_change 2 = .ok (.invokevirtual 86, 3) := by decide +kernel
theorem dX4_change_5 : decode cX4_change 5 = .ok (.ifCond .ne 13, 3) := by decide +kernel
theorem dX4_change_8 : decode cX4_change 8 = .ok (.new 89, 3) := by decide +kernel
theorem dX4_change_11 : decode cX4_change 11 = .ok (.dup, 1) := by decide +kernel
theorem dX4_change_12 : decode cX4_change 12 = .ok (.ldc 91, 2) := by decide +kernel
theorem dX4_change_14 : decode cX4_change 14 = .ok (.invokespecial 93, 3) := by decide +kernel
theorem dX4_change_17 : decode cX4_change 17 = .ok (.athrow, 1) := by decide +kernel
theorem dX4_change_18 : decode cX4_change 18 = .ok (.iload_n 1, 1) := by decide +kernel
theorem dX4_change_19 : decode cX4_change 19 = .ok (.aload_n 0, 1) := by decide +kernel
theorem dX4_change_20 : decode cX4_change 20 = .ok (.getfield 17, 3) := by decide +kernel
theorem dX4_change_23 : decode cX4_change 23 = .ok (.if_icmp .ne 13, 3) := by decide +kernel
theorem dX4_change_26 : decode cX4_change 26 = .ok (.new 63, 3) := by decide +kernel
theorem dX4_change_29 : decode cX4_change 29 = .ok (.dup, 1) := by decide +kernel
theorem dX4_change_30 : decode cX4_change 30 = .ok (.ldc 94, 2) := by decide +kernel
theorem dX4_change_32 : decode cX4_change 32 = .ok (.invokespecial 67, 3) := by decide +kernel
theorem dX4_change_35 : decode cX4_change 35 = .ok (.athrow, 1) := by decide +kernel
theorem dX4_change_36 : decode cX4_change 36 = .ok (.aload_n 0, 1) := by decide +kernel
theorem dX4_change_37 : decode cX4_change 37 = .ok (.getfield 96, 3) := by decide +kernel
theorem dX4_change_40 : decode cX4_change 40 = .ok (.ifCond .le 13, 3) := by decide +kernel
theorem dX4_change_43 : decode cX4_change 43 = .ok (.new 73, 3) := by decide +kernel
theorem dX4_change_46 : decode cX4_change 46 = .ok (.dup, 1) := by decide +kernel
theorem dX4_change_47 : decode cX4_change 47 = .ok (.ldc 99, 2) := by decide +kernel
theorem dX4_change_49 : decode cX4_change 49 = .ok (.invokespecial 77, 3) := by decide +kernel
theorem dX4_change_52 : decode cX4_change 52 = .ok (.athrow, 1) := by decide +kernel
theorem dX4_change_53 : decode cX4_change 53 = .ok (.iconst 1, 1) := by decide +kernel
theorem dX4_change_54 : decode cX4_change 54 = .ok (.istore_n 2, 1) := by decide +kernel
theorem dX4_change_55 : decode cX4_change 55 = .ok (.aload_n 0, 1) := by decide +kernel
theorem dX4_change_56 : decode cX4_change 56 = .ok (.aload_n 0, 1) := by decide +kernel
theorem dX4_change_57 : decode cX4_change 57 = .ok (.getfield 17, 3) := by decide +kernel
theorem dX4_change_60 : decode cX4_change 60 = .ok (.invokevirtual 86, 3) := by decide +kernel
theorem dX4_change_63 : decode cX4_change 63 = .ok (.ifCond .eq 43, 3) := by decide +kernel
theorem dX4_change_66 : decode cX4_change 66 = .ok (.aload_n 0, 1) := by decide +kernel
theorem dX4_change_67 : decode cX4_change 67 = .ok (.getfield 9, 3) := by decide +kernel
theorem dX4_change_70 : decode cX4_change 70 = .ok (.iload_n 1, 1) := by decide +kernel
theorem dX4_change_71 : decode cX4_change 71 = .ok (.iaload, 1) := by decide +kernel
theorem dX4_change_72 : decode cX4_change 72 = .ok (.aload_n 0, 1) := by decide +kernel
theorem dX4_change_73 : decode cX4_change 73 = .ok (.getfield 9, 3) := by decide +kernel
theorem dX4_change_76 : decode cX4_change 76 = .ok (.aload_n 0, 1) := by decide +kernel
theorem dX4_change_77 : decode cX4_change 77 = .ok (.getfield 17, 3) := by decide +kernel
theorem dX4_change_80 : decode cX4_change 80 = .ok (.iaload, 1) := by decide +kernel
theorem dX4_change_81 : decode cX4_change 81 = .ok (.isub, 1) := by decide +kernel
theorem dX4_change_82 : decode cX4_change 82 = .ok (.istore_n 3, 1) := by decide +kernel
theorem dX4_change_83 : decode cX4_change 83 = .ok (.iload_n 2, 1) := by decide +kernel
theorem dX4_change_84 : decode cX4_change 84 = .ok (.iload_n 3, 1) := by decide +kernel
theorem dX4_change_85 : decode cX4_change 85 = .ok (.invokestatic 101, 3) := by decide +kernel
theorem dX4_change_88 : decode cX4_change 88 = .ok (.bipush 40, 2) := by decide +kernel
theorem dX4_change_90 : decode cX4_change 90 = .ok (.idiv, 1) := by decide +kernel
theorem dX4_change_91 : decode cX4_change 91 = .ok (.iadd, 1) := by decide +kernel
theorem dX4_change_92 : decode cX4_change 92 = .ok (.istore_n 2, 1) := by decide +kernel
theorem dX4_change_93 : decode cX4_change 93 = .ok (.aload_n 0, 1) := by decide +kernel
theorem dX4_change_94 : decode cX4_change 94 = .ok (.iload_n 3, 1) := by decide +kernel
theorem dX4_change_95 : decode cX4_change 95 = .ok (.ifCond .le 7, 3) := by decide +kernel
theorem dX4_change_98 : decode cX4_change 98 = .ok (.iconst 1, 1) := by decide +kernel
theorem dX4_change_99 : decode cX4_change 99 = .ok (.goto 4, 3) := by decide +kernel
theorem dX4_change_102 : decode cX4_change 102 = .ok (.iconst 0, 1) := by decide +kernel
theorem dX4_change_103 : decode cX4_change 103 = .ok (.putfield 20, 3) := by decide +kernel
theorem dX4_change_106 : decode cX4_change 106 = .ok (.aload_n 0, 1) := by decide +kernel
theorem dX4_change_107 : decode cX4_change 107 = .ok (.iload_n 1, 1) := by decide +kernel
theorem dX4_change_108 : decode cX4_change 108 = .ok (.putfield 17, 3) := by decide +kernel
theorem dX4_change_111 : decode cX4_change 111 = .ok (.aload_n 0, 1) := by decide +kernel
theorem dX4_change_112 : decode cX4_change 112 = .ok (.iload_n 2, 1) := by decide +kernel
theorem dX4_change_113 : decode cX4_change 113 = .ok (.putfield 96, 3) := by decide +kernel
theorem dX4_change_116 : decode cX4_change 116 = .ok (.iload_n 2, 1) := by decide +kernel
theorem dX4_change_117 : decode cX4_change 117 = .ok (.ireturn, 1) := by decide +kernel
set_option maxRecDepth 20000 in
theorem ggX4_grade_X4_isGrade : GoodIn wsX4_grade wsX4_isGrade := goodIn_r _ [8, 9, 10, 11, 12, 13, 14, 15, 16, 17, 18, 19, 20, 21, 22] (by decide +kernel) (by decide +kernel)
set_option maxRecDepth 20000 in
theorem gX4_grade_X4_isGrade : GoodIn wsX4_grade (wsV RX4 86 RX4 yX4_isGrade wsX4_isGrade) := goodIn_app (goodIn_of _ (by decide +kernel)) ggX4_grade_X4_isGrade
theorem dX4_grade_0 : decode cX4_grade 0 = .ok (.aload_n 0, 1) := by decide +kernel
theorem dX4_grade_1 : decode cX4_grade 1 = .ok (.aload_n 0, 1) := by decide +kernel
theorem dX4_grade_2 : decode cX4_grade 2 = .ok (.getfield 17, 3) := by decide +kernel
theorem dX4_grade_5 : decode cX4_grade 5 = .ok (.invokevirtual 86, 3) := by decide +kernel
theorem dX4_grade_8 : decode cX4_grade 8 = .ok (.ifCond .ne 13, 3) := by decide +kernel
theorem dX4_grade_11 : decode cX4_grade 11 = .ok (.new 107, 3) := by decide +kernel
theorem dX4_grade_14 : decode cX4_grade 14 = .ok (.dup, 1) := by decide +kernel
theorem dX4_grade_15 : decode cX4_grade 15 = .ok (.ldc 109, 2) := by decide +kernel
theorem dX4_grade_17 : decode cX4_grade 17 = .ok (.invokespecial 111, 3) := by decide +kernel
theorem dX4_grade_20 : decode cX4_grade 20 = .ok (.athrow, 1) := by decide +kernel
theorem dX4_grade_21 : decode cX4_grade 21 = .ok (.aload_n 0, 1) := by decide +kernel
theorem dX4_grade_22 : decode cX4_grade 22 = .ok (.getfield 17, 3) := by decide +kernel
theorem dX4_grade_25 : decode cX4_grade 25 = .ok (.ireturn, 1) := by decide +kernel
theorem dX4_changing_0 : decode cX4_changing 0 = .ok (.aload_n 0, 1) := by decide +kernel
theorem dX4_changing_1 : decode cX4_changing 1 = .ok (.getfield 96, 3) := by decide +kernel
theorem dX4_changing_4 : decode cX4_changing 4 = .ok (.ireturn, 1) := by decide +kernel
set_option maxRecDepth 20000 in
theorem ggX4_next_X4_isGrade : GoodIn wsX4_next wsX4_isGrade := goodIn_r _ [10, 11, 25, 26, 27, 28, 29, 30, 31, 32, 33, 34, 35, 36, 37] (by decide +kernel) (by decide +kernel)
set_option maxRecDepth 20000 in
theorem gX4_next_X4_isGrade : GoodIn wsX4_next (wsV RX4 86 RX4 yX4_isGrade wsX4_isGrade) := goodIn_app (goodIn_of _ (by decide +kernel)) ggX4_next_X4_isGrade
set_option maxRecDepth 20000 in
theorem ggX4_next_X4_nearestWaiting : GoodIn wsX4_next wsX4_nearestWaiting := goodIn_ca (goodIn_r _ [15, 11, 4, 16, 17, 18, 19, 20, 21, 22, 23, 24, 25, 26, 27, 28, 29, 30, 31, 32, 33, 34, 35, 36, 37, 38, 39, 40, 41, 42] (by decide +kernel) (by decide +kernel)) (goodIn_sub (fun _ h => List.mem_cons_of_mem _ (List.mem_append_left _ (List.mem_append_right _ h))) (by decide +kernel))
set_option maxRecDepth 20000 in
theorem gX4_next_X4_nearestWaiting : GoodIn wsX4_next (wsV RX4 112 RX4 yX4_nearestWaiting wsX4_nearestWaiting) := goodIn_app (goodIn_of _ (by decide +kernel)) ggX4_next_X4_nearestWaiting
theorem dX4_next_0 : decode cX4_next 0 = .ok (.aload_n 0, 1) := by decide +kernel
theorem dX4_next_1 : decode cX4_next 1 = .ok (.aload_n 0, 1) := by decide +kernel
theorem dX4_next_2 : decode cX4_next 2 = .ok (.getfield 17, 3) := by decide +kernel
theorem dX4_next_5 : decode cX4_next 5 = .ok (.invokevirtual 86, 3) := by decide +kernel
theorem dX4_next_8 : decode cX4_next 8 = .ok (.ifCond .eq 55, 3) := by decide +kernel
theorem dX4_next_11 : decode cX4_next 11 = .ok (.aload_n 0, 1) := by decide +kernel
theorem dX4_next_12 : decode cX4_next 12 = .ok (.aload_n 0, 1) := by decide +kernel
theorem dX4_next_13 : decode cX4_next 13 = .ok (.getfield 9, 3) := by decide +kernel
theorem dX4_next_16 : decode cX4_next 16 = .ok (.aload_n 0, 1) := by decide +kernel
theorem dX4_next_17 : decode cX4_next 17 = .ok (.getfield 17, 3) := by decide +kernel
theorem dX4_next_20 : decode cX4_next 20 = .ok (.iaload, 1) := by decide +kernel
theorem dX4_next_21 : decode cX4_next 21 = .ok (.aload_n 0, 1) := by decide +kernel
theorem dX4_next_22 : decode cX4_next 22 = .ok (.getfield 20, 3) := by decide +kernel
theorem dX4_next_25 : decode cX4_next 25 = .ok (.invokevirtual 112, 3) := by decide +kernel
theorem dX4_next_28 : decode cX4_next 28 = .ok (.istore_n 1, 1) := by decide +kernel
theorem dX4_next_29 : decode cX4_next 29 = .ok (.iload_n 1, 1) := by decide +kernel
theorem dX4_next_30 : decode cX4_next 30 = .ok (.iconst (-1), 1) := by decide +kernel
theorem dX4_next_31 : decode cX4_next 31 = .ok (.if_icmp .ne 39, 3) := by decide +kernel
theorem dX4_next_34 : decode cX4_next 34 = .ok (.aload_n 0, 1) := by decide +kernel
theorem dX4_next_35 : decode cX4_next 35 = .ok (.aload_n 0, 1) := by decide +kernel
theorem dX4_next_36 : decode cX4_next 36 = .ok (.getfield 9, 3) := by decide +kernel
theorem dX4_next_39 : decode cX4_next 39 = .ok (.aload_n 0, 1) := by decide +kernel
theorem dX4_next_40 : decode cX4_next 40 = .ok (.getfield 17, 3) := by decide +kernel
theorem dX4_next_43 : decode cX4_next 43 = .ok (.iaload, 1) := by decide +kernel
theorem dX4_next_44 : decode cX4_next 44 = .ok (.aload_n 0, 1) := by decide +kernel
theorem dX4_next_45 : decode cX4_next 45 = .ok (.getfield 20, 3) := by decide +kernel
theorem dX4_next_48 : decode cX4_next 48 = .ok (.ifCond .ne 7, 3) := by decide +kernel
theorem dX4_next_51 : decode cX4_next 51 = .ok (.iconst 1, 1) := by decide +kernel
theorem dX4_next_52 : decode cX4_next 52 = .ok (.goto 4, 3) := by decide +kernel
theorem dX4_next_55 : decode cX4_next 55 = .ok (.iconst 0, 1) := by decide +kernel
theorem dX4_next_56 : decode cX4_next 56 = .ok (.invokevirtual 112, 3) := by decide +kernel
theorem dX4_next_59 : decode cX4_next 59 = .ok (.istore_n 1, 1) := by decide +kernel
theorem dX4_next_60 : decode cX4_next 60 = .ok (.goto 10, 3) := by decide +kernel
theorem dX4_next_63 : decode cX4_next 63 = .ok (.aload_n 0, 1) := by decide +kernel
theorem dX4_next_64 : decode cX4_next 64 = .ok (.iconst 0, 1) := by decide +kernel
theorem dX4_next_65 : decode cX4_next 65 = .ok (.iconst 1, 1) := by decide +kernel
theorem dX4_next_66 : decode cX4_next 66 = .ok (.invokevirtual 112, 3) := by decide +kernel
theorem dX4_next_69 : decode cX4_next 69 = .ok (.istore_n 1, 1) := by decide +kernel
theorem dX4_next_70 : decode cX4_next 70 = .ok (.iload_n 1, 1) := by decide +kernel
theorem dX4_next_71 : decode cX4_next 71 = .ok (.iconst (-1), 1) := by decide +kernel
theorem dX4_next_72 : decode cX4_next 72 = .ok (.if_icmp .ne 13, 3) := by decide +kernel
theorem dX4_next_75 : decode cX4_next 75 = .ok (.new 107, 3) := by decide +kernel
theorem dX4_next_78 : decode cX4_next 78 = .ok (.dup, 1) := by decide +kernel
theorem dX4_next_79 : decode cX4_next 79 = .ok (.ldc 116, 2) := by decide +kernel
theorem dX4_next_81 : decode cX4_next 81 = .ok (.invokespecial 111, 3) := by decide +kernel
theorem dX4_next_84 : decode cX4_next 84 = .ok (.athrow, 1) := by decide +kernel
theorem dX4_next_85 : decode cX4_next 85 = .ok (.iload_n 1, 1) := by decide +kernel
theorem dX4_next_86 : decode cX4_next 86 = .ok (.ireturn, 1) := by decide +kernel
set_option maxRecDepth 20000 in
theorem ggX4_mass_X4_isGrade : GoodIn wsX4_mass wsX4_isGrade := goodIn_r _ [7, 8, 15, 16, 17, 18, 19, 20, 21, 22, 23, 24, 25, 26, 27] (by decide +kernel) (by decide +kernel)
set_option maxRecDepth 20000 in
theorem gX4_mass_X4_isGrade : GoodIn wsX4_mass (wsV RX4 86 RX4 yX4_isGrade wsX4_isGrade) := goodIn_app (goodIn_of _ (by decide +kernel)) ggX4_mass_X4_isGrade
set_option maxRecDepth 20000 in
theorem ggX4_mass_X4_massOfAnHour : GoodIn wsX4_mass wsX4_massOfAnHour := goodIn_ca (goodIn_r _ [12, 13, 14, 3, 4, 5, 6, 7, 8, 15, 16, 17, 18, 19, 20, 21, 22, 23, 24, 25, 26, 27] (by decide +kernel) (by decide +kernel)) (goodIn_sub (fun _ h => List.mem_cons_of_mem _ (List.mem_append_right _ h)) (by decide +kernel))
set_option maxRecDepth 20000 in
theorem gX4_mass_X4_massOfAnHour : GoodIn wsX4_mass (wsV RX4 118 RX4 yX4_massOfAnHour wsX4_massOfAnHour) := goodIn_app (goodIn_of _ (by decide +kernel)) ggX4_mass_X4_massOfAnHour
theorem dX4_mass_0 : decode cX4_mass 0 = .ok (.aload_n 0, 1) := by decide +kernel
theorem dX4_mass_1 : decode cX4_mass 1 = .ok (.iload_n 1, 1) := by decide +kernel
theorem dX4_mass_2 : decode cX4_mass 2 = .ok (.invokevirtual 86, 3) := by decide +kernel
theorem dX4_mass_5 : decode cX4_mass 5 = .ok (.ifCond .ne 13, 3) := by decide +kernel
theorem dX4_mass_8 : decode cX4_mass 8 = .ok (.new 89, 3) := by decide +kernel
theorem dX4_mass_11 : decode cX4_mass 11 = .ok (.dup, 1) := by decide +kernel
theorem dX4_mass_12 : decode cX4_mass 12 = .ok (.ldc 91, 2) := by decide +kernel
theorem dX4_mass_14 : decode cX4_mass 14 = .ok (.invokespecial 93, 3) := by decide +kernel
theorem dX4_mass_17 : decode cX4_mass 17 = .ok (.athrow, 1) := by decide +kernel
theorem dX4_mass_18 : decode cX4_mass 18 = .ok (.aload_n 0, 1) := by decide +kernel
theorem dX4_mass_19 : decode cX4_mass 19 = .ok (.iload_n 1, 1) := by decide +kernel
theorem dX4_mass_20 : decode cX4_mass 20 = .ok (.invokevirtual 118, 3) := by decide +kernel
theorem dX4_mass_23 : decode cX4_mass 23 = .ok (.ireturn, 1) := by decide +kernel
set_option maxRecDepth 20000 in
theorem ggX4_order_X4_isGrade : GoodIn wsX4_order wsX4_isGrade := goodIn_r _ [15, 16, 35, 36, 37, 38, 39, 40, 41, 42, 43, 44, 45, 46, 47] (by decide +kernel) (by decide +kernel)
set_option maxRecDepth 20000 in
theorem gX4_order_X4_isGrade : GoodIn wsX4_order (wsV RX4 86 RX4 yX4_isGrade wsX4_isGrade) := goodIn_app (goodIn_of _ (by decide +kernel)) ggX4_order_X4_isGrade
set_option maxRecDepth 20000 in
theorem ggX4_order_X4_isWithin : GoodIn wsX4_order wsX4_isWithin := goodIn_r _ [19] (by decide +kernel) (by decide +kernel)
set_option maxRecDepth 20000 in
theorem gX4_order_X4_isWithin : GoodIn wsX4_order (va_wsS RX4 55 yX4_isWithin wsX4_isWithin) := goodIn_app (goodIn_of _ (by decide +kernel)) ggX4_order_X4_isWithin
set_option maxRecDepth 20000 in
theorem ggX4_order_X3_isFull : GoodIn wsX4_order wsX3_isFull := goodIn_r _ [24, 25, 48, 49, 50, 51, 52] (by decide +kernel) (by decide +kernel)
set_option maxRecDepth 20000 in
theorem gX4_order_X3_isFull : GoodIn wsX4_order (wsV RX4 128 RX3 yX3_isFull wsX3_isFull) := goodIn_app (goodIn_of _ (by decide +kernel)) ggX4_order_X3_isFull
set_option maxRecDepth 20000 in
theorem ggX4_order_X3_write : GoodIn wsX4_order wsX3_write := goodIn_ca (goodIn_r _ [29, 25, 30, 31, 32, 33, 34, 21, 22, 23, 24, 48, 49, 50, 51, 52] (by decide +kernel) (by decide +kernel)) (goodIn_sub (fun _ h => List.mem_cons_of_mem _ (List.mem_append_right _ h)) (by decide +kernel))
set_option maxRecDepth 20000 in
theorem gX4_order_X3_write : GoodIn wsX4_order (wsV RX4 134 RX3 yX3_write wsX3_write) := goodIn_app (goodIn_of _ (by decide +kernel)) ggX4_order_X3_write
theorem dX4_order_0 : decode cX4_order 0 = .ok (.aload_n 0, 1) := by decide +kernel
theorem dX4_order_1 : decode cX4_order 1 = .ok (.iload_n 1, 1) := by decide +kernel
theorem dX4_order_2 : decode cX4_order 2 = .ok (.invokevirtual 86, 3) := by decide +kernel
theorem dX4_order_5 : decode cX4_order 5 = .ok (.ifCond .ne 13, 3) := by decide +kernel
theorem dX4_order_8 : decode cX4_order 8 = .ok (.new 89, 3) := by decide +kernel
theorem dX4_order_11 : decode cX4_order 11 = .ok (.dup, 1) := by decide +kernel
theorem dX4_order_12 : decode cX4_order 12 = .ok (.ldc 91, 2) := by decide +kernel
theorem dX4_order_14 : decode cX4_order 14 = .ok (.invokespecial 93, 3) := by decide +kernel
theorem dX4_order_17 : decode cX4_order 17 = .ok (.athrow, 1) := by decide +kernel
theorem dX4_order_18 : decode cX4_order 18 = .ok (.iload_n 2, 1) := by decide +kernel
theorem dX4_order_19 : decode cX4_order 19 = .ok (.bipush 20, 2) := by decide +kernel
theorem dX4_order_21 : decode cX4_order 21 = .ok (.sipush 400, 3) := by decide +kernel
theorem dX4_order_24 : decode cX4_order 24 = .ok (.invokestatic 55, 3) := by decide +kernel
theorem dX4_order_27 : decode cX4_order 27 = .ok (.ifCond .eq 13, 3) := by decide +kernel
theorem dX4_order_30 : decode cX4_order 30 = .ok (.iload_n 3, 1) := by decide +kernel
theorem dX4_order_31 : decode cX4_order 31 = .ok (.iconst 1, 1) := by decide +kernel
theorem dX4_order_32 : decode cX4_order 32 = .ok (.bipush 50, 2) := by decide +kernel
theorem dX4_order_34 : decode cX4_order 34 = .ok (.invokestatic 55, 3) := by decide +kernel
theorem dX4_order_37 : decode cX4_order 37 = .ok (.ifCond .ne 13, 3) := by decide +kernel
theorem dX4_order_40 : decode cX4_order 40 = .ok (.new 63, 3) := by decide +kernel
theorem dX4_order_43 : decode cX4_order 43 = .ok (.dup, 1) := by decide +kernel
theorem dX4_order_44 : decode cX4_order 44 = .ok (.ldc 121, 2) := by decide +kernel
theorem dX4_order_46 : decode cX4_order 46 = .ok (.invokespecial 67, 3) := by decide +kernel
theorem dX4_order_49 : decode cX4_order 49 = .ok (.athrow, 1) := by decide +kernel
theorem dX4_order_50 : decode cX4_order 50 = .ok (.iload_n 2, 1) := by decide +kernel
theorem dX4_order_51 : decode cX4_order 51 = .ok (.aload_n 0, 1) := by decide +kernel
theorem dX4_order_52 : decode cX4_order 52 = .ok (.getfield 13, 3) := by decide +kernel
theorem dX4_order_55 : decode cX4_order 55 = .ok (.if_icmp .le 13, 3) := by decide +kernel
theorem dX4_order_58 : decode cX4_order 58 = .ok (.new 123, 3) := by decide +kernel
theorem dX4_order_61 : decode cX4_order 61 = .ok (.dup, 1) := by decide +kernel
theorem dX4_order_62 : decode cX4_order 62 = .ok (.ldc 125, 2) := by decide +kernel
theorem dX4_order_64 : decode cX4_order 64 = .ok (.invokespecial 127, 3) := by decide +kernel
theorem dX4_order_67 : decode cX4_order 67 = .ok (.athrow, 1) := by decide +kernel
theorem dX4_order_68 : decode cX4_order 68 = .ok (.aload_n 0, 1) := by decide +kernel
theorem dX4_order_69 : decode cX4_order 69 = .ok (.getfield 27, 3) := by decide +kernel
theorem dX4_order_72 : decode cX4_order 72 = .ok (.invokevirtual 128, 3) := by decide +kernel
theorem dX4_order_75 : decode cX4_order 75 = .ok (.ifCond .eq 13, 3) := by decide +kernel
theorem dX4_order_78 : decode cX4_order 78 = .ok (.new 73, 3) := by decide +kernel
theorem dX4_order_81 : decode cX4_order 81 = .ok (.dup, 1) := by decide +kernel
theorem dX4_order_82 : decode cX4_order 82 = .ok (.ldc 132, 2) := by decide +kernel
theorem dX4_order_84 : decode cX4_order 84 = .ok (.invokespecial 77, 3) := by decide +kernel
theorem dX4_order_87 : decode cX4_order 87 = .ok (.athrow, 1) := by decide +kernel
theorem dX4_order_88 : decode cX4_order 88 = .ok (.aload_n 0, 1) := by decide +kernel
theorem dX4_order_89 : decode cX4_order 89 = .ok (.getfield 27, 3) := by decide +kernel
theorem dX4_order_92 : decode cX4_order 92 = .ok (.iload_n 1, 1) := by decide +kernel
theorem dX4_order_93 : decode cX4_order 93 = .ok (.iload_n 2, 1) := by decide +kernel
theorem dX4_order_94 : decode cX4_order 94 = .ok (.iload_n 3, 1) := by decide +kernel
theorem dX4_order_95 : decode cX4_order 95 = .ok (.invokevirtual 134, 3) := by decide +kernel
theorem dX4_order_98 : decode cX4_order 98 = .ok (.ireturn, 1) := by decide +kernel
set_option maxRecDepth 20000 in
theorem ggX4_cancel_X3_has : GoodIn wsX4_cancel wsX3_has := goodIn_r _ [11, 12, 26, 27, 28, 29, 30] (by decide +kernel) (by decide +kernel)
set_option maxRecDepth 20000 in
theorem gX4_cancel_X3_has : GoodIn wsX4_cancel (wsV RX4 138 RX3 yX3_has wsX3_has) := goodIn_app (goodIn_of _ (by decide +kernel)) ggX4_cancel_X3_has
theorem dX4_cancel_0 : decode cX4_cancel 0 = .ok (.aload_n 0, 1) := by decide +kernel
theorem dX4_cancel_1 : decode cX4_cancel 1 = .ok (.getfield 27, 3) := by decide +kernel
theorem dX4_cancel_4 : decode cX4_cancel 4 = .ok (.iload_n 1, 1) := by decide +kernel
theorem dX4_cancel_5 : decode cX4_cancel 5 = .ok (.invokevirtual 138, 3) := by decide +kernel
theorem dX4_cancel_8 : decode cX4_cancel 8 = .ok (.ifCond .ne 13, 3) := by decide +kernel
theorem dX4_cancel_11 : decode cX4_cancel 11 = .ok (.new 89, 3) := by decide +kernel
theorem dX4_cancel_14 : decode cX4_cancel 14 = .ok (.dup, 1) := by decide +kernel
theorem dX4_cancel_15 : decode cX4_cancel 15 = .ok (.ldc 141, 2) := by decide +kernel
theorem dX4_cancel_17 : decode cX4_cancel 17 = .ok (.invokespecial 93, 3) := by decide +kernel
theorem dX4_cancel_20 : decode cX4_cancel 20 = .ok (.athrow, 1) := by decide +kernel
theorem dX4_cancel_21 : decode cX4_cancel 21 = .ok (.aload_n 0, 1) := by decide +kernel
theorem dX4_cancel_22 : decode cX4_cancel 22 = .ok (.getfield 27, 3) := by decide +kernel
theorem dX4_cancel_25 : decode cX4_cancel 25 = .ok (.getfield 143, 3) := by decide +kernel
theorem dX4_cancel_28 : decode cX4_cancel 28 = .ok (.iload_n 1, 1) := by decide +kernel
theorem dX4_cancel_29 : decode cX4_cancel 29 = .ok (.iaload, 1) := by decide +kernel
theorem dX4_cancel_30 : decode cX4_cancel 30 = .ok (.istore_n 2, 1) := by decide +kernel
theorem dX4_cancel_31 : decode cX4_cancel 31 = .ok (.iload_n 2, 1) := by decide +kernel
theorem dX4_cancel_32 : decode cX4_cancel 32 = .ok (.ifCond .gt 13, 3) := by decide +kernel
theorem dX4_cancel_35 : decode cX4_cancel 35 = .ok (.new 73, 3) := by decide +kernel
theorem dX4_cancel_38 : decode cX4_cancel 38 = .ok (.dup, 1) := by decide +kernel
theorem dX4_cancel_39 : decode cX4_cancel 39 = .ok (.ldc 146, 2) := by decide +kernel
theorem dX4_cancel_41 : decode cX4_cancel 41 = .ok (.invokespecial 77, 3) := by decide +kernel
theorem dX4_cancel_44 : decode cX4_cancel 44 = .ok (.athrow, 1) := by decide +kernel
theorem dX4_cancel_45 : decode cX4_cancel 45 = .ok (.aload_n 0, 1) := by decide +kernel
theorem dX4_cancel_46 : decode cX4_cancel 46 = .ok (.getfield 27, 3) := by decide +kernel
theorem dX4_cancel_49 : decode cX4_cancel 49 = .ok (.getfield 143, 3) := by decide +kernel
theorem dX4_cancel_52 : decode cX4_cancel 52 = .ok (.iload_n 1, 1) := by decide +kernel
theorem dX4_cancel_53 : decode cX4_cancel 53 = .ok (.iconst 0, 1) := by decide +kernel
theorem dX4_cancel_54 : decode cX4_cancel 54 = .ok (.iastore, 1) := by decide +kernel
theorem dX4_cancel_55 : decode cX4_cancel 55 = .ok (.iload_n 2, 1) := by decide +kernel
theorem dX4_cancel_56 : decode cX4_cancel 56 = .ok (.ireturn, 1) := by decide +kernel
set_option maxRecDepth 20000 in
theorem ggX4_cut_X3_has : GoodIn wsX4_cut wsX3_has := goodIn_r _ [9, 10, 24, 25, 26, 27, 28] (by decide +kernel) (by decide +kernel)
set_option maxRecDepth 20000 in
theorem gX4_cut_X3_has : GoodIn wsX4_cut (wsV RX4 138 RX3 yX3_has wsX3_has) := goodIn_app (goodIn_of _ (by decide +kernel)) ggX4_cut_X3_has
theorem dX4_cut_0 : decode cX4_cut 0 = .ok (.aload_n 0, 1) := by decide +kernel
theorem dX4_cut_1 : decode cX4_cut 1 = .ok (.getfield 27, 3) := by decide +kernel
theorem dX4_cut_4 : decode cX4_cut 4 = .ok (.iload_n 1, 1) := by decide +kernel
theorem dX4_cut_5 : decode cX4_cut 5 = .ok (.invokevirtual 138, 3) := by decide +kernel
theorem dX4_cut_8 : decode cX4_cut 8 = .ok (.ifCond .ne 13, 3) := by decide +kernel
theorem dX4_cut_11 : decode cX4_cut 11 = .ok (.new 89, 3) := by decide +kernel
theorem dX4_cut_14 : decode cX4_cut 14 = .ok (.dup, 1) := by decide +kernel
theorem dX4_cut_15 : decode cX4_cut 15 = .ok (.ldc 141, 2) := by decide +kernel
theorem dX4_cut_17 : decode cX4_cut 17 = .ok (.invokespecial 93, 3) := by decide +kernel
theorem dX4_cut_20 : decode cX4_cut 20 = .ok (.athrow, 1) := by decide +kernel
theorem dX4_cut_21 : decode cX4_cut 21 = .ok (.aload_n 0, 1) := by decide +kernel
theorem dX4_cut_22 : decode cX4_cut 22 = .ok (.getfield 27, 3) := by decide +kernel
theorem dX4_cut_25 : decode cX4_cut 25 = .ok (.getfield 148, 3) := by decide +kernel
theorem dX4_cut_28 : decode cX4_cut 28 = .ok (.iload_n 1, 1) := by decide +kernel
theorem dX4_cut_29 : decode cX4_cut 29 = .ok (.iaload, 1) := by decide +kernel
theorem dX4_cut_30 : decode cX4_cut 30 = .ok (.ireturn, 1) := by decide +kernel
set_option maxRecDepth 20000 in
theorem ggX4_lacks_X3_has : GoodIn wsX4_lacks wsX3_has := goodIn_r _ [9, 10, 24, 25, 26, 27, 28] (by decide +kernel) (by decide +kernel)
set_option maxRecDepth 20000 in
theorem gX4_lacks_X3_has : GoodIn wsX4_lacks (wsV RX4 138 RX3 yX3_has wsX3_has) := goodIn_app (goodIn_of _ (by decide +kernel)) ggX4_lacks_X3_has
theorem dX4_lacks_0 : decode cX4_lacks 0 = .ok (.aload_n 0, 1) := by decide +kernel
theorem dX4_lacks_1 : decode cX4_lacks 1 = .ok (.getfield 27, 3) := by decide +kernel
theorem dX4_lacks_4 : decode cX4_lacks 4 = .ok (.iload_n 1, 1) := by decide +kernel
theorem dX4_lacks_5 : decode cX4_lacks 5 = .ok (.invokevirtual 138, 3) := by decide +kernel
theorem dX4_lacks_8 : decode cX4_lacks 8 = .ok (.ifCond .ne 13, 3) := by decide +kernel
theorem dX4_lacks_11 : decode cX4_lacks 11 = .ok (.new 89, 3) := by decide +kernel
theorem dX4_lacks_14 : decode cX4_lacks 14 = .ok (.dup, 1) := by decide +kernel
theorem dX4_lacks_15 : decode cX4_lacks 15 = .ok (.ldc 141, 2) := by decide +kernel
theorem dX4_lacks_17 : decode cX4_lacks 17 = .ok (.invokespecial 93, 3) := by decide +kernel
theorem dX4_lacks_20 : decode cX4_lacks 20 = .ok (.athrow, 1) := by decide +kernel
theorem dX4_lacks_21 : decode cX4_lacks 21 = .ok (.aload_n 0, 1) := by decide +kernel
theorem dX4_lacks_22 : decode cX4_lacks 22 = .ok (.getfield 27, 3) := by decide +kernel
theorem dX4_lacks_25 : decode cX4_lacks 25 = .ok (.getfield 143, 3) := by decide +kernel
theorem dX4_lacks_28 : decode cX4_lacks 28 = .ok (.iload_n 1, 1) := by decide +kernel
theorem dX4_lacks_29 : decode cX4_lacks 29 = .ok (.iaload, 1) := by decide +kernel
theorem dX4_lacks_30 : decode cX4_lacks 30 = .ok (.ireturn, 1) := by decide +kernel
set_option maxRecDepth 20000 in
theorem ggX4_trim_X4_isGrade : GoodIn wsX4_trim wsX4_isGrade := goodIn_r _ [10, 11, 59, 60, 61, 62, 63, 64, 65, 66, 67, 68, 69, 70, 71] (by decide +kernel) (by decide +kernel)
set_option maxRecDepth 20000 in
theorem gX4_trim_X4_isGrade : GoodIn wsX4_trim (wsV RX4 86 RX4 yX4_isGrade wsX4_isGrade) := goodIn_app (goodIn_of _ (by decide +kernel)) ggX4_trim_X4_isGrade
set_option maxRecDepth 20000 in
theorem ggX4_trim_X1_load : GoodIn wsX4_trim wsX1_load := goodIn_ca (goodIn_r _ [16, 17, 18, 19, 20, 21, 22, 23, 24, 25, 26, 27, 28, 29, 30, 31, 32, 33, 34, 35, 36, 72, 73, 74, 75, 76, 77, 78, 79, 80, 81, 82, 83, 84] (by decide +kernel) (by decide +kernel)) (goodIn_sub (fun _ h => List.mem_cons_of_mem _ (List.mem_append_right _ h)) (by decide +kernel))
set_option maxRecDepth 20000 in
theorem gX4_trim_X1_load : GoodIn wsX4_trim (wsV RX4 151 RX1 yX1_load wsX1_load) := goodIn_app (goodIn_of _ (by decide +kernel)) ggX4_trim_X1_load
set_option maxRecDepth 20000 in
theorem ggX4_trim_X1_sumBySearch : GoodIn wsX4_trim wsX1_sumBySearch := goodIn_ca (goodIn_r _ [40, 41, 42, 43, 44, 45, 46, 47, 48, 15, 49, 30, 24, 17, 18, 19, 20, 28, 26, 50, 51, 52, 53, 54, 55, 56, 57, 58, 72, 73, 74, 75, 76, 77, 78, 79] (by decide +kernel) (by decide +kernel)) (goodIn_sub (fun _ h => List.mem_cons_of_mem _ (List.mem_append_right _ h)) (by decide +kernel))
set_option maxRecDepth 20000 in
theorem gX4_trim_X1_sumBySearch : GoodIn wsX4_trim (wsV RX4 155 RX1 yX1_sumBySearch wsX1_sumBySearch) := goodIn_app (goodIn_of _ (by decide +kernel)) ggX4_trim_X1_sumBySearch
theorem dX4_trim_0 : decode cX4_trim 0 = .ok (.aload_n 0, 1) := by decide +kernel
theorem dX4_trim_1 : decode cX4_trim 1 = .ok (.iload_n 1, 1) := by decide +kernel
theorem dX4_trim_2 : decode cX4_trim 2 = .ok (.invokevirtual 86, 3) := by decide +kernel
theorem dX4_trim_5 : decode cX4_trim 5 = .ok (.ifCond .ne 13, 3) := by decide +kernel
theorem dX4_trim_8 : decode cX4_trim 8 = .ok (.new 89, 3) := by decide +kernel
theorem dX4_trim_11 : decode cX4_trim 11 = .ok (.dup, 1) := by decide +kernel
theorem dX4_trim_12 : decode cX4_trim 12 = .ok (.ldc 91, 2) := by decide +kernel
theorem dX4_trim_14 : decode cX4_trim 14 = .ok (.invokespecial 93, 3) := by decide +kernel
theorem dX4_trim_17 : decode cX4_trim 17 = .ok (.athrow, 1) := by decide +kernel
theorem dX4_trim_18 : decode cX4_trim 18 = .ok (.aload_n 0, 1) := by decide +kernel
theorem dX4_trim_19 : decode cX4_trim 19 = .ok (.getfield 34, 3) := by decide +kernel
theorem dX4_trim_22 : decode cX4_trim 22 = .ok (.aload_n 0, 1) := by decide +kernel
theorem dX4_trim_23 : decode cX4_trim 23 = .ok (.getfield 27, 3) := by decide +kernel
theorem dX4_trim_26 : decode cX4_trim 26 = .ok (.iload_n 1, 1) := by decide +kernel
theorem dX4_trim_27 : decode cX4_trim 27 = .ok (.aload_n 0, 1) := by decide +kernel
theorem dX4_trim_28 : decode cX4_trim 28 = .ok (.getfield 13, 3) := by decide +kernel
theorem dX4_trim_31 : decode cX4_trim 31 = .ok (.invokevirtual 151, 3) := by decide +kernel
theorem dX4_trim_34 : decode cX4_trim 34 = .ok (.aload_n 0, 1) := by decide +kernel
theorem dX4_trim_35 : decode cX4_trim 35 = .ok (.getfield 13, 3) := by decide +kernel
theorem dX4_trim_38 : decode cX4_trim 38 = .ok (.aload_n 0, 1) := by decide +kernel
theorem dX4_trim_39 : decode cX4_trim 39 = .ok (.getfield 34, 3) := by decide +kernel
theorem dX4_trim_42 : decode cX4_trim 42 = .ok (.invokevirtual 155, 3) := by decide +kernel
theorem dX4_trim_45 : decode cX4_trim 45 = .ok (.isub, 1) := by decide +kernel
theorem dX4_trim_46 : decode cX4_trim 46 = .ok (.ireturn, 1) := by decide +kernel
set_option maxRecDepth 20000 in
theorem ggX4_trimByTable_X4_isGrade : GoodIn wsX4_trimByTable wsX4_isGrade := goodIn_r _ [10, 11, 50, 51, 52, 53, 54, 55, 56, 57, 58, 59, 60, 61, 62] (by decide +kernel) (by decide +kernel)
set_option maxRecDepth 20000 in
theorem gX4_trimByTable_X4_isGrade : GoodIn wsX4_trimByTable (wsV RX4 86 RX4 yX4_isGrade wsX4_isGrade) := goodIn_app (goodIn_of _ (by decide +kernel)) ggX4_trimByTable_X4_isGrade
set_option maxRecDepth 20000 in
theorem ggX4_trimByTable_X1_load : GoodIn wsX4_trimByTable wsX1_load := goodIn_ca (goodIn_r _ [16, 17, 18, 19, 20, 21, 22, 23, 24, 25, 26, 27, 28, 29, 30, 31, 32, 33, 34, 35, 36, 63, 64, 65, 66, 67, 68, 69, 70, 71, 72, 73, 74, 75] (by decide +kernel) (by decide +kernel)) (goodIn_sub (fun _ h => List.mem_cons_of_mem _ (List.mem_append_right _ h)) (by decide +kernel))
set_option maxRecDepth 20000 in
theorem gX4_trimByTable_X1_load : GoodIn wsX4_trimByTable (wsV RX4 151 RX1 yX1_load wsX1_load) := goodIn_app (goodIn_of _ (by decide +kernel)) ggX4_trimByTable_X1_load
set_option maxRecDepth 20000 in
theorem ggX4_trimByTable_X1_sumByTable : GoodIn wsX4_trimByTable wsX1_sumByTable := goodIn_ca (goodIn_r _ [40, 41, 28, 26, 24, 42, 43, 44, 45, 46, 47, 48, 15, 49, 17, 18, 19, 20, 63, 64, 65, 66, 67, 68, 69, 70] (by decide +kernel) (by decide +kernel)) (goodIn_sub (fun _ h => List.mem_cons_of_mem _ (List.mem_append_right _ h)) (by decide +kernel))
set_option maxRecDepth 20000 in
theorem gX4_trimByTable_X1_sumByTable : GoodIn wsX4_trimByTable (wsV RX4 158 RX1 yX1_sumByTable wsX1_sumByTable) := goodIn_app (goodIn_of _ (by decide +kernel)) ggX4_trimByTable_X1_sumByTable
theorem dX4_trimByTable_0 : decode cX4_trimByTable 0 = .ok (.aload_n 0, 1) := by decide +kernel
theorem dX4_trimByTable_1 : decode cX4_trimByTable 1 = .ok (.iload_n 1, 1) := by decide +kernel
theorem dX4_trimByTable_2 : decode cX4_trimByTable 2 = .ok (.invokevirtual 86, 3) := by decide +kernel
theorem dX4_trimByTable_5 : decode cX4_trimByTable 5 = .ok (.ifCond .ne 13, 3) := by decide +kernel
theorem dX4_trimByTable_8 : decode cX4_trimByTable 8 = .ok (.new 89, 3) := by decide +kernel
theorem dX4_trimByTable_11 : decode cX4_trimByTable 11 = .ok (.dup, 1) := by decide +kernel
theorem dX4_trimByTable_12 : decode cX4_trimByTable 12 = .ok (.ldc 91, 2) := by decide +kernel
theorem dX4_trimByTable_14 : decode cX4_trimByTable 14 = .ok (.invokespecial 93, 3) := by decide +kernel
theorem dX4_trimByTable_17 : decode cX4_trimByTable 17 = .ok (.athrow, 1) := by decide +kernel
theorem dX4_trimByTable_18 : decode cX4_trimByTable 18 = .ok (.aload_n 0, 1) := by decide +kernel
theorem dX4_trimByTable_19 : decode cX4_trimByTable 19 = .ok (.getfield 34, 3) := by decide +kernel
theorem dX4_trimByTable_22 : decode cX4_trimByTable 22 = .ok (.aload_n 0, 1) := by decide +kernel
theorem dX4_trimByTable_23 : decode cX4_trimByTable 23 = .ok (.getfield 27, 3) := by decide +kernel
theorem dX4_trimByTable_26 : decode cX4_trimByTable 26 = .ok (.iload_n 1, 1) := by decide +kernel
theorem dX4_trimByTable_27 : decode cX4_trimByTable 27 = .ok (.aload_n 0, 1) := by decide +kernel
theorem dX4_trimByTable_28 : decode cX4_trimByTable 28 = .ok (.getfield 13, 3) := by decide +kernel
theorem dX4_trimByTable_31 : decode cX4_trimByTable 31 = .ok (.invokevirtual 151, 3) := by decide +kernel
theorem dX4_trimByTable_34 : decode cX4_trimByTable 34 = .ok (.aload_n 0, 1) := by decide +kernel
theorem dX4_trimByTable_35 : decode cX4_trimByTable 35 = .ok (.getfield 13, 3) := by decide +kernel
theorem dX4_trimByTable_38 : decode cX4_trimByTable 38 = .ok (.aload_n 0, 1) := by decide +kernel
theorem dX4_trimByTable_39 : decode cX4_trimByTable 39 = .ok (.getfield 34, 3) := by decide +kernel
theorem dX4_trimByTable_42 : decode cX4_trimByTable 42 = .ok (.invokevirtual 158, 3) := by decide +kernel
theorem dX4_trimByTable_45 : decode cX4_trimByTable 45 = .ok (.isub, 1) := by decide +kernel
theorem dX4_trimByTable_46 : decode cX4_trimByTable 46 = .ok (.ireturn, 1) := by decide +kernel
set_option maxRecDepth 20000 in
theorem ggX4_inCut_X3_has : GoodIn wsX4_inCut wsX3_has := goodIn_r _ [12, 13, 69, 70, 71, 72, 73] (by decide +kernel) (by decide +kernel)
set_option maxRecDepth 20000 in
theorem gX4_inCut_X3_has : GoodIn wsX4_inCut (wsV RX4 138 RX3 yX3_has wsX3_has) := goodIn_app (goodIn_of _ (by decide +kernel)) ggX4_inCut_X3_has
set_option maxRecDepth 20000 in
theorem ggX4_inCut_X1_load : GoodIn wsX4_inCut wsX1_load := goodIn_ca (goodIn_r _ [18, 19, 20, 21, 22, 23, 24, 25, 26, 27, 28, 29, 30, 31, 32, 33, 9, 10, 11, 12, 13, 74, 75, 76, 77, 78, 79, 80, 81, 69, 70, 71, 72, 73] (by decide +kernel) (by decide +kernel)) (goodIn_sub (fun _ h => List.mem_cons_of_mem _ (List.mem_append_right _ h)) (by decide +kernel))
set_option maxRecDepth 20000 in
theorem gX4_inCut_X1_load : GoodIn wsX4_inCut (wsV RX4 151 RX1 yX1_load wsX1_load) := goodIn_app (goodIn_of _ (by decide +kernel)) ggX4_inCut_X1_load
set_option maxRecDepth 20000 in
theorem ggX4_inCut_X1_sumBySearch : GoodIn wsX4_inCut wsX1_sumBySearch := goodIn_ca (goodIn_r _ [37, 38, 39, 40, 41, 42, 43, 44, 45, 17, 46, 32, 26, 19, 20, 21, 22, 30, 28, 47, 48, 49, 50, 51, 52, 53, 54, 55, 74, 75, 76, 77, 78, 79, 80, 81] (by decide +kernel) (by decide +kernel)) (goodIn_sub (fun _ h => List.mem_cons_of_mem _ (List.mem_append_right _ h)) (by decide +kernel))
set_option maxRecDepth 20000 in
theorem gX4_inCut_X1_sumBySearch : GoodIn wsX4_inCut (wsV RX4 155 RX1 yX1_sumBySearch wsX1_sumBySearch) := goodIn_app (goodIn_of _ (by decide +kernel)) ggX4_inCut_X1_sumBySearch
theorem dX4_inCut_0 : decode cX4_inCut 0 = .ok (.aload_n 0, 1) := by decide +kernel
theorem dX4_inCut_1 : decode cX4_inCut 1 = .ok (.getfield 27, 3) := by decide +kernel
theorem dX4_inCut_4 : decode cX4_inCut 4 = .ok (.iload_n 1, 1) := by decide +kernel
theorem dX4_inCut_5 : decode cX4_inCut 5 = .ok (.invokevirtual 138, 3) := by decide +kernel
theorem dX4_inCut_8 : decode cX4_inCut 8 = .ok (.ifCond .ne 13, 3) := by decide +kernel
theorem dX4_inCut_11 : decode cX4_inCut 11 = .ok (.new 89, 3) := by decide +kernel
theorem dX4_inCut_14 : decode cX4_inCut 14 = .ok (.dup, 1) := by decide +kernel
theorem dX4_inCut_15 : decode cX4_inCut 15 = .ok (.ldc 141, 2) := by decide +kernel
theorem dX4_inCut_17 : decode cX4_inCut 17 = .ok (.invokespecial 93, 3) := by decide +kernel
theorem dX4_inCut_20 : decode cX4_inCut 20 = .ok (.athrow, 1) := by decide +kernel
theorem dX4_inCut_21 : decode cX4_inCut 21 = .ok (.aload_n 0, 1) := by decide +kernel
theorem dX4_inCut_22 : decode cX4_inCut 22 = .ok (.getfield 34, 3) := by decide +kernel
theorem dX4_inCut_25 : decode cX4_inCut 25 = .ok (.aload_n 0, 1) := by decide +kernel
theorem dX4_inCut_26 : decode cX4_inCut 26 = .ok (.getfield 27, 3) := by decide +kernel
theorem dX4_inCut_29 : decode cX4_inCut 29 = .ok (.aload_n 0, 1) := by decide +kernel
theorem dX4_inCut_30 : decode cX4_inCut 30 = .ok (.getfield 27, 3) := by decide +kernel
theorem dX4_inCut_33 : decode cX4_inCut 33 = .ok (.getfield 161, 3) := by decide +kernel
theorem dX4_inCut_36 : decode cX4_inCut 36 = .ok (.iload_n 1, 1) := by decide +kernel
theorem dX4_inCut_37 : decode cX4_inCut 37 = .ok (.iaload, 1) := by decide +kernel
theorem dX4_inCut_38 : decode cX4_inCut 38 = .ok (.aload_n 0, 1) := by decide +kernel
theorem dX4_inCut_39 : decode cX4_inCut 39 = .ok (.getfield 13, 3) := by decide +kernel
theorem dX4_inCut_42 : decode cX4_inCut 42 = .ok (.invokevirtual 151, 3) := by decide +kernel
theorem dX4_inCut_45 : decode cX4_inCut 45 = .ok (.aload_n 0, 1) := by decide +kernel
theorem dX4_inCut_46 : decode cX4_inCut 46 = .ok (.getfield 34, 3) := by decide +kernel
theorem dX4_inCut_49 : decode cX4_inCut 49 = .ok (.invokevirtual 155, 3) := by decide +kernel
theorem dX4_inCut_52 : decode cX4_inCut 52 = .ok (.pop, 1) := by decide +kernel
theorem dX4_inCut_53 : decode cX4_inCut 53 = .ok (.aload_n 0, 1) := by decide +kernel
theorem dX4_inCut_54 : decode cX4_inCut 54 = .ok (.getfield 34, 3) := by decide +kernel
theorem dX4_inCut_57 : decode cX4_inCut 57 = .ok (.getfield 164, 3) := by decide +kernel
theorem dX4_inCut_60 : decode cX4_inCut 60 = .ok (.iload_n 1, 1) := by decide +kernel
theorem dX4_inCut_61 : decode cX4_inCut 61 = .ok (.iaload, 1) := by decide +kernel
theorem dX4_inCut_62 : decode cX4_inCut 62 = .ok (.ireturn, 1) := by decide +kernel
set_option maxRecDepth 20000 in
theorem ggX4_leastHours_X4_isGrade : GoodIn wsX4_leastHours wsX4_isGrade := goodIn_r _ [13, 14, 31, 32, 33, 34, 35, 36, 37, 38, 39, 40, 41, 42, 43] (by decide +kernel) (by decide +kernel)
set_option maxRecDepth 20000 in
theorem gX4_leastHours_X4_isGrade : GoodIn wsX4_leastHours (wsV RX4 86 RX4 yX4_isGrade wsX4_isGrade) := goodIn_app (goodIn_of _ (by decide +kernel)) ggX4_leastHours_X4_isGrade
set_option maxRecDepth 20000 in
theorem ggX4_leastHours_X3_widthLacking : GoodIn wsX4_leastHours wsX3_widthLacking := goodIn_ca (goodIn_r _ [19, 20, 21, 22, 23, 44, 45, 46, 47, 48] (by decide +kernel) (by decide +kernel)) (goodIn_sub (fun _ h => List.mem_cons_of_mem _ (List.mem_append_left _ (List.mem_append_right _ h))) (by decide +kernel))
set_option maxRecDepth 20000 in
theorem gX4_leastHours_X3_widthLacking : GoodIn wsX4_leastHours (wsV RX4 167 RX3 yX3_widthLacking wsX3_widthLacking) := goodIn_app (goodIn_of _ (by decide +kernel)) ggX4_leastHours_X3_widthLacking
set_option maxRecDepth 20000 in
theorem ggX4_leastHours_X4_quotientUp : GoodIn wsX4_leastHours wsX4_quotientUp := goodIn_ca (goodIn_r _ [26] (by decide +kernel) (by decide +kernel)) (goodIn_sub (fun _ h => List.mem_cons_of_mem _ (List.mem_append_right _ h)) (by decide +kernel))
set_option maxRecDepth 20000 in
theorem gX4_leastHours_X4_quotientUp : GoodIn wsX4_leastHours (va_wsS RX4 170 yX4_quotientUp wsX4_quotientUp) := goodIn_app (goodIn_of _ (by decide +kernel)) ggX4_leastHours_X4_quotientUp
set_option maxRecDepth 20000 in
theorem ggX4_leastHours_X3_rollsLacking : GoodIn wsX4_leastHours wsX3_rollsLacking := goodIn_ca (goodIn_r _ [30, 20, 21, 22, 44, 45, 46, 47, 48] (by decide +kernel) (by decide +kernel)) (goodIn_sub (fun _ h => List.mem_cons_of_mem _ (List.mem_append_left _ (List.mem_append_right _ h))) (by decide +kernel))
set_option maxRecDepth 20000 in
theorem gX4_leastHours_X3_rollsLacking : GoodIn wsX4_leastHours (wsV RX4 174 RX3 yX3_rollsLacking wsX3_rollsLacking) := goodIn_app (goodIn_of _ (by decide +kernel)) ggX4_leastHours_X3_rollsLacking
theorem dX4_leastHours_0 : decode cX4_leastHours 0 = .ok (.aload_n 0, 1) := by decide +kernel
theorem dX4_leastHours_1 : decode cX4_leastHours 1 = .ok (.iload_n 1, 1) := by decide +kernel
theorem dX4_leastHours_2 : decode cX4_leastHours 2 = .ok (.invokevirtual 86, 3) := by decide +kernel
theorem dX4_leastHours_5 : decode cX4_leastHours 5 = .ok (.ifCond .ne 13, 3) := by decide +kernel
theorem dX4_leastHours_8 : decode cX4_leastHours 8 = .ok (.new 89, 3) := by decide +kernel
theorem dX4_leastHours_11 : decode cX4_leastHours 11 = .ok (.dup, 1) := by decide +kernel
theorem dX4_leastHours_12 : decode cX4_leastHours 12 = .ok (.ldc 91, 2) := by decide +kernel
theorem dX4_leastHours_14 : decode cX4_leastHours 14 = .ok (.invokespecial 93, 3) := by decide +kernel
theorem dX4_leastHours_17 : decode cX4_leastHours 17 = .ok (.athrow, 1) := by decide +kernel
theorem dX4_leastHours_18 : decode cX4_leastHours 18 = .ok (.aload_n 0, 1) := by decide +kernel
theorem dX4_leastHours_19 : decode cX4_leastHours 19 = .ok (.getfield 27, 3) := by decide +kernel
theorem dX4_leastHours_22 : decode cX4_leastHours 22 = .ok (.iload_n 1, 1) := by decide +kernel
theorem dX4_leastHours_23 : decode cX4_leastHours 23 = .ok (.invokevirtual 167, 3) := by decide +kernel
theorem dX4_leastHours_26 : decode cX4_leastHours 26 = .ok (.aload_n 0, 1) := by decide +kernel
theorem dX4_leastHours_27 : decode cX4_leastHours 27 = .ok (.getfield 13, 3) := by decide +kernel
theorem dX4_leastHours_30 : decode cX4_leastHours 30 = .ok (.invokestatic 170, 3) := by decide +kernel
theorem dX4_leastHours_33 : decode cX4_leastHours 33 = .ok (.istore_n 2, 1) := by decide +kernel
theorem dX4_leastHours_34 : decode cX4_leastHours 34 = .ok (.aload_n 0, 1) := by decide +kernel
theorem dX4_leastHours_35 : decode cX4_leastHours 35 = .ok (.getfield 27, 3) := by decide +kernel
theorem dX4_leastHours_38 : decode cX4_leastHours 38 = .ok (.iload_n 1, 1) := by decide +kernel
theorem dX4_leastHours_39 : decode cX4_leastHours 39 = .ok (.invokevirtual 174, 3) := by decide +kernel
theorem dX4_leastHours_42 : decode cX4_leastHours 42 = .ok (.bipush 6, 2) := by decide +kernel
theorem dX4_leastHours_44 : decode cX4_leastHours 44 = .ok (.invokestatic 170, 3) := by decide +kernel
theorem dX4_leastHours_47 : decode cX4_leastHours 47 = .ok (.istore_n 3, 1) := by decide +kernel
theorem dX4_leastHours_48 : decode cX4_leastHours 48 = .ok (.iload_n 2, 1) := by decide +kernel
theorem dX4_leastHours_49 : decode cX4_leastHours 49 = .ok (.iload_n 3, 1) := by decide +kernel
theorem dX4_leastHours_50 : decode cX4_leastHours 50 = .ok (.invokestatic 177, 3) := by decide +kernel
theorem dX4_leastHours_53 : decode cX4_leastHours 53 = .ok (.ireturn, 1) := by decide +kernel
set_option maxRecDepth 20000 in
theorem ggX4_setShare_X4_isWithin : GoodIn wsX4_setShare wsX4_isWithin := goodIn_r _ [7] (by decide +kernel) (by decide +kernel)
set_option maxRecDepth 20000 in
theorem gX4_setShare_X4_isWithin : GoodIn wsX4_setShare (va_wsS RX4 55 yX4_isWithin wsX4_isWithin) := goodIn_app (goodIn_of _ (by decide +kernel)) ggX4_setShare_X4_isWithin
theorem dX4_setShare_0 : decode cX4_setShare 0 = .ok (.iload_n 1, 1) := by decide +kernel
theorem dX4_setShare_1 : decode cX4_setShare 1 = .ok (.iconst 0, 1) := by decide +kernel
theorem dX4_setShare_2 : decode cX4_setShare 2 = .ok (.bipush 50, 2) := by decide +kernel
theorem dX4_setShare_4 : decode cX4_setShare 4 = .ok (.invokestatic 55, 3) := by decide +kernel
theorem dX4_setShare_7 : decode cX4_setShare 7 = .ok (.ifCond .ne 13, 3) := by decide +kernel
theorem dX4_setShare_10 : decode cX4_setShare 10 = .ok (.new 63, 3) := by decide +kernel
theorem dX4_setShare_13 : decode cX4_setShare 13 = .ok (.dup, 1) := by decide +kernel
theorem dX4_setShare_14 : decode cX4_setShare 14 = .ok (.ldc 180, 2) := by decide +kernel
theorem dX4_setShare_16 : decode cX4_setShare 16 = .ok (.invokespecial 67, 3) := by decide +kernel
theorem dX4_setShare_19 : decode cX4_setShare 19 = .ok (.athrow, 1) := by decide +kernel
theorem dX4_setShare_20 : decode cX4_setShare 20 = .ok (.aload_n 0, 1) := by decide +kernel
theorem dX4_setShare_21 : decode cX4_setShare 21 = .ok (.getfield 52, 3) := by decide +kernel
theorem dX4_setShare_24 : decode cX4_setShare 24 = .ok (.istore_n 2, 1) := by decide +kernel
theorem dX4_setShare_25 : decode cX4_setShare 25 = .ok (.aload_n 0, 1) := by decide +kernel
theorem dX4_setShare_26 : decode cX4_setShare 26 = .ok (.iload_n 1, 1) := by decide +kernel
theorem dX4_setShare_27 : decode cX4_setShare 27 = .ok (.putfield 52, 3) := by decide +kernel
theorem dX4_setShare_30 : decode cX4_setShare 30 = .ok (.iload_n 2, 1) := by decide +kernel
theorem dX4_setShare_31 : decode cX4_setShare 31 = .ok (.ireturn, 1) := by decide +kernel
set_option maxRecDepth 20000 in
theorem ggX4_setContract_X4_isWithin : GoodIn wsX4_setContract wsX4_isWithin := goodIn_r _ [10] (by decide +kernel) (by decide +kernel)
set_option maxRecDepth 20000 in
theorem gX4_setContract_X4_isWithin : GoodIn wsX4_setContract (va_wsS RX4 55 yX4_isWithin wsX4_isWithin) := goodIn_app (goodIn_of _ (by decide +kernel)) ggX4_setContract_X4_isWithin
theorem dX4_setContract_0 : decode cX4_setContract 0 = .ok (.iload_n 1, 1) := by decide +kernel
theorem dX4_setContract_1 : decode cX4_setContract 1 = .ok (.iconst 0, 1) := by decide +kernel
theorem dX4_setContract_2 : decode cX4_setContract 2 = .ok (.sipush 9999, 3) := by decide +kernel
theorem dX4_setContract_5 : decode cX4_setContract 5 = .ok (.invokestatic 55, 3) := by decide +kernel
theorem dX4_setContract_8 : decode cX4_setContract 8 = .ok (.ifCond .eq 23, 3) := by decide +kernel
theorem dX4_setContract_11 : decode cX4_setContract 11 = .ok (.iload_n 2, 1) := by decide +kernel
theorem dX4_setContract_12 : decode cX4_setContract 12 = .ok (.iconst 0, 1) := by decide +kernel
theorem dX4_setContract_13 : decode cX4_setContract 13 = .ok (.bipush 99, 2) := by decide +kernel
theorem dX4_setContract_15 : decode cX4_setContract 15 = .ok (.invokestatic 55, 3) := by decide +kernel
theorem dX4_setContract_18 : decode cX4_setContract 18 = .ok (.ifCond .eq 13, 3) := by decide +kernel
theorem dX4_setContract_21 : decode cX4_setContract 21 = .ok (.iload_n 3, 1) := by decide +kernel
theorem dX4_setContract_22 : decode cX4_setContract 22 = .ok (.iconst 0, 1) := by decide +kernel
theorem dX4_setContract_23 : decode cX4_setContract 23 = .ok (.bipush 99, 2) := by decide +kernel
theorem dX4_setContract_25 : decode cX4_setContract 25 = .ok (.invokestatic 55, 3) := by decide +kernel
theorem dX4_setContract_28 : decode cX4_setContract 28 = .ok (.ifCond .ne 13, 3) := by decide +kernel
theorem dX4_setContract_31 : decode cX4_setContract 31 = .ok (.new 63, 3) := by decide +kernel
theorem dX4_setContract_34 : decode cX4_setContract 34 = .ok (.dup, 1) := by decide +kernel
theorem dX4_setContract_35 : decode cX4_setContract 35 = .ok (.ldc 182, 2) := by decide +kernel
theorem dX4_setContract_37 : decode cX4_setContract 37 = .ok (.invokespecial 67, 3) := by decide +kernel
theorem dX4_setContract_40 : decode cX4_setContract 40 = .ok (.athrow, 1) := by decide +kernel
theorem dX4_setContract_41 : decode cX4_setContract 41 = .ok (.aload_n 0, 1) := by decide +kernel
theorem dX4_setContract_42 : decode cX4_setContract 42 = .ok (.getfield 41, 3) := by decide +kernel
theorem dX4_setContract_45 : decode cX4_setContract 45 = .ok (.getfield 184, 3) := by decide +kernel
theorem dX4_setContract_48 : decode cX4_setContract 48 = .ok (.istore 4, 2) := by decide +kernel
theorem dX4_setContract_50 : decode cX4_setContract 50 = .ok (.aload_n 0, 1) := by decide +kernel
theorem dX4_setContract_51 : decode cX4_setContract 51 = .ok (.getfield 41, 3) := by decide +kernel
theorem dX4_setContract_54 : decode cX4_setContract 54 = .ok (.iload_n 1, 1) := by decide +kernel
theorem dX4_setContract_55 : decode cX4_setContract 55 = .ok (.putfield 184, 3) := by decide +kernel
theorem dX4_setContract_58 : decode cX4_setContract 58 = .ok (.aload_n 0, 1) := by decide +kernel
theorem dX4_setContract_59 : decode cX4_setContract 59 = .ok (.getfield 41, 3) := by decide +kernel
theorem dX4_setContract_62 : decode cX4_setContract 62 = .ok (.iload_n 2, 1) := by decide +kernel
theorem dX4_setContract_63 : decode cX4_setContract 63 = .ok (.putfield 187, 3) := by decide +kernel
theorem dX4_setContract_66 : decode cX4_setContract 66 = .ok (.aload_n 0, 1) := by decide +kernel
theorem dX4_setContract_67 : decode cX4_setContract 67 = .ok (.getfield 41, 3) := by decide +kernel
theorem dX4_setContract_70 : decode cX4_setContract 70 = .ok (.iload_n 3, 1) := by decide +kernel
theorem dX4_setContract_71 : decode cX4_setContract 71 = .ok (.putfield 190, 3) := by decide +kernel
theorem dX4_setContract_74 : decode cX4_setContract 74 = .ok (.iload 4, 2) := by decide +kernel
theorem dX4_setContract_76 : decode cX4_setContract 76 = .ok (.ireturn, 1) := by decide +kernel
set_option maxRecDepth 20000 in
theorem ggX4_pass_X4_isWithin : GoodIn wsX4_pass wsX4_isWithin := goodIn_r _ [10] (by decide +kernel) (by decide +kernel)
set_option maxRecDepth 20000 in
theorem gX4_pass_X4_isWithin : GoodIn wsX4_pass (va_wsS RX4 55 yX4_isWithin wsX4_isWithin) := goodIn_app (goodIn_of _ (by decide +kernel)) ggX4_pass_X4_isWithin
set_option maxRecDepth 20000 in
theorem ggX4_pass_X4_passAnHour : GoodIn wsX4_pass wsX4_passAnHour := goodIn_ca (goodIn_ca (goodIn_r _ [14, 15, 5, 16, 17, 18, 19, 20, 21, 22, 23, 9, 24, 25, 26, 27, 28, 29, 30, 31, 32, 33, 34, 35, 36, 37, 38, 39, 40, 41, 42, 43, 44, 45, 46, 47, 48, 49, 50, 51, 52, 53, 54, 55, 56, 57, 58, 59, 60, 61, 62, 63, 64, 65, 66, 67, 68, 69, 70, 71, 72, 73, 74, 75, 76, 77, 78, 79, 80, 81, 82, 83, 84, 85, 86, 87, 88, 89, 90, 91, 92, 93, 94, 95, 96, 97, 98, 99, 100, 101, 102, 103, 104, 105, 106, 107, 108, 109, 110, 111, 112, 113, 114, 115, 116, 117, 118, 119, 120, 121, 122, 123, 124, 125, 126, 127, 128, 129, 130, 131, 132, 133, 134, 135, 136, 137, 138, 139, 140, 141, 142, 154, 155, 156, 157, 158, 159, 160, 161, 143, 144, 145, 146, 147, 148, 149, 150, 151, 152, 153, 162, 163, 164, 165, 166, 167, 168, 169] (by decide +kernel) (by decide +kernel)) (goodIn_sub (fun _ h => List.mem_cons_of_mem _ (List.mem_append_left _ (List.mem_append_right _ h))) (by decide +kernel))) (goodIn_sub (fun _ h => List.mem_cons_of_mem _ (List.mem_append_right _ h)) (by decide +kernel))
set_option maxRecDepth 20000 in
theorem gX4_pass_X4_passAnHour : GoodIn wsX4_pass (wsV RX4 200 RX4 yX4_passAnHour wsX4_passAnHour) := goodIn_app (goodIn_of _ (by decide +kernel)) ggX4_pass_X4_passAnHour
theorem dX4_pass_0 : decode cX4_pass 0 = .ok (.iload_n 1, 1) := by decide +kernel
theorem dX4_pass_1 : decode cX4_pass 1 = .ok (.iconst 1, 1) := by decide +kernel
theorem dX4_pass_2 : decode cX4_pass 2 = .ok (.bipush 48, 2) := by decide +kernel
theorem dX4_pass_4 : decode cX4_pass 4 = .ok (.invokestatic 55, 3) := by decide +kernel
theorem dX4_pass_7 : decode cX4_pass 7 = .ok (.ifCond .ne 13, 3) := by decide +kernel
theorem dX4_pass_10 : decode cX4_pass 10 = .ok (.new 63, 3) := by decide +kernel
theorem dX4_pass_13 : decode cX4_pass 13 = .ok (.dup, 1) := by decide +kernel
theorem dX4_pass_14 : decode cX4_pass 14 = .ok (.ldc 193, 2) := by decide +kernel
theorem dX4_pass_16 : decode cX4_pass 16 = .ok (.invokespecial 67, 3) := by decide +kernel
theorem dX4_pass_19 : decode cX4_pass 19 = .ok (.athrow, 1) := by decide +kernel
theorem dX4_pass_20 : decode cX4_pass 20 = .ok (.iload_n 1, 1) := by decide +kernel
theorem dX4_pass_21 : decode cX4_pass 21 = .ok (.sipush 400, 3) := by decide +kernel
theorem dX4_pass_24 : decode cX4_pass 24 = .ok (.aload_n 0, 1) := by decide +kernel
theorem dX4_pass_25 : decode cX4_pass 25 = .ok (.getfield 48, 3) := by decide +kernel
theorem dX4_pass_28 : decode cX4_pass 28 = .ok (.getfield 195, 3) := by decide +kernel
theorem dX4_pass_31 : decode cX4_pass 31 = .ok (.isub, 1) := by decide +kernel
theorem dX4_pass_32 : decode cX4_pass 32 = .ok (.if_icmp .le 13, 3) := by decide +kernel
theorem dX4_pass_35 : decode cX4_pass 35 = .ok (.new 73, 3) := by decide +kernel
theorem dX4_pass_38 : decode cX4_pass 38 = .ok (.dup, 1) := by decide +kernel
theorem dX4_pass_39 : decode cX4_pass 39 = .ok (.ldc 198, 2) := by decide +kernel
theorem dX4_pass_41 : decode cX4_pass 41 = .ok (.invokespecial 77, 3) := by decide +kernel
theorem dX4_pass_44 : decode cX4_pass 44 = .ok (.athrow, 1) := by decide +kernel
theorem dX4_pass_45 : decode cX4_pass 45 = .ok (.iconst 0, 1) := by decide +kernel
theorem dX4_pass_46 : decode cX4_pass 46 = .ok (.istore_n 2, 1) := by decide +kernel
theorem dX4_pass_47 : decode cX4_pass 47 = .ok (.iconst 0, 1) := by decide +kernel
theorem dX4_pass_48 : decode cX4_pass 48 = .ok (.istore_n 3, 1) := by decide +kernel
theorem dX4_pass_49 : decode cX4_pass 49 = .ok (.iload_n 3, 1) := by decide +kernel
theorem dX4_pass_50 : decode cX4_pass 50 = .ok (.iload_n 1, 1) := by decide +kernel
theorem dX4_pass_51 : decode cX4_pass 51 = .ok (.if_icmp .ge 16, 3) := by decide +kernel
theorem dX4_pass_54 : decode cX4_pass 54 = .ok (.iload_n 2, 1) := by decide +kernel
theorem dX4_pass_55 : decode cX4_pass 55 = .ok (.aload_n 0, 1) := by decide +kernel
theorem dX4_pass_56 : decode cX4_pass 56 = .ok (.invokevirtual 200, 3) := by decide +kernel
theorem dX4_pass_59 : decode cX4_pass 59 = .ok (.iadd, 1) := by decide +kernel
theorem dX4_pass_60 : decode cX4_pass 60 = .ok (.istore_n 2, 1) := by decide +kernel
theorem dX4_pass_61 : decode cX4_pass 61 = .ok (.iinc 3 1, 3) := by decide +kernel
theorem dX4_pass_64 : decode cX4_pass 64 = .ok (.goto (-15), 3) := by decide +kernel
theorem dX4_pass_67 : decode cX4_pass 67 = .ok (.iload_n 2, 1) := by decide +kernel
theorem dX4_pass_68 : decode cX4_pass 68 = .ok (.ireturn, 1) := by decide +kernel
theorem dX4_hours_0 : decode cX4_hours 0 = .ok (.aload_n 0, 1) := by decide +kernel
theorem dX4_hours_1 : decode cX4_hours 1 = .ok (.getfield 48, 3) := by decide +kernel
theorem dX4_hours_4 : decode cX4_hours 4 = .ok (.getfield 195, 3) := by decide +kernel
theorem dX4_hours_7 : decode cX4_hours 7 = .ok (.ireturn, 1) := by decide +kernel
theorem dX4_broke_0 : decode cX4_broke 0 = .ok (.aload_n 0, 1) := by decide +kernel
theorem dX4_broke_1 : decode cX4_broke 1 = .ok (.getfield 203, 3) := by decide +kernel
theorem dX4_broke_4 : decode cX4_broke 4 = .ok (.ireturn, 1) := by decide +kernel
set_option maxRecDepth 20000 in
theorem ggX4_brokeByHours_X2_fibreStillThere : GoodIn wsX4_brokeByHours wsX2_fibreStillThere := goodIn_ca (goodIn_r _ [6, 7, 8, 9, 10, 24, 25, 26, 27, 28, 29, 30, 31, 32, 33, 34] (by decide +kernel) (by decide +kernel)) (goodIn_sub (fun _ h => List.mem_cons_of_mem _ (List.mem_append_right _ h)) (by decide +kernel))
set_option maxRecDepth 20000 in
theorem gX4_brokeByHours_X2_fibreStillThere : GoodIn wsX4_brokeByHours (wsV RX4 206 RX2 yX2_fibreStillThere wsX2_fibreStillThere) := goodIn_app (goodIn_of _ (by decide +kernel)) ggX4_brokeByHours_X2_fibreStillThere
theorem dX4_brokeByHours_0 : decode cX4_brokeByHours 0 = .ok (.aload_n 0, 1) := by decide +kernel
theorem dX4_brokeByHours_1 : decode cX4_brokeByHours 1 = .ok (.getfield 48, 3) := by decide +kernel
theorem dX4_brokeByHours_4 : decode cX4_brokeByHours 4 = .ok (.invokevirtual 206, 3) := by decide +kernel
theorem dX4_brokeByHours_7 : decode cX4_brokeByHours 7 = .ok (.ireturn, 1) := by decide +kernel
theorem dX4_fresh_0 : decode cX4_fresh 0 = .ok (.aload_n 0, 1) := by decide +kernel
theorem dX4_fresh_1 : decode cX4_fresh 1 = .ok (.getfield 48, 3) := by decide +kernel
theorem dX4_fresh_4 : decode cX4_fresh 4 = .ok (.getfield 209, 3) := by decide +kernel
theorem dX4_fresh_7 : decode cX4_fresh 7 = .ok (.lreturn, 1) := by decide +kernel
theorem dX4_paper_0 : decode cX4_paper 0 = .ok (.aload_n 0, 1) := by decide +kernel
theorem dX4_paper_1 : decode cX4_paper 1 = .ok (.getfield 48, 3) := by decide +kernel
theorem dX4_paper_4 : decode cX4_paper 4 = .ok (.getfield 213, 3) := by decide +kernel
theorem dX4_paper_7 : decode cX4_paper 7 = .ok (.lreturn, 1) := by decide +kernel
theorem dX4_lost_0 : decode cX4_lost 0 = .ok (.aload_n 0, 1) := by decide +kernel
theorem dX4_lost_1 : decode cX4_lost 1 = .ok (.getfield 48, 3) := by decide +kernel
theorem dX4_lost_4 : decode cX4_lost 4 = .ok (.getfield 216, 3) := by decide +kernel
theorem dX4_lost_7 : decode cX4_lost 7 = .ok (.lreturn, 1) := by decide +kernel
set_option maxRecDepth 20000 in
theorem ggX4_made_X2_has : GoodIn wsX4_made wsX2_has := goodIn_r _ [9, 10, 24, 25, 26, 27, 28, 29, 30, 31, 32, 33, 34] (by decide +kernel) (by decide +kernel)
set_option maxRecDepth 20000 in
theorem gX4_made_X2_has : GoodIn wsX4_made (wsV RX4 219 RX2 yX2_has wsX2_has) := goodIn_app (goodIn_of _ (by decide +kernel)) ggX4_made_X2_has
theorem dX4_made_0 : decode cX4_made 0 = .ok (.aload_n 0, 1) := by decide +kernel
theorem dX4_made_1 : decode cX4_made 1 = .ok (.getfield 48, 3) := by decide +kernel
theorem dX4_made_4 : decode cX4_made 4 = .ok (.iload_n 1, 1) := by decide +kernel
theorem dX4_made_5 : decode cX4_made 5 = .ok (.invokevirtual 219, 3) := by decide +kernel
theorem dX4_made_8 : decode cX4_made 8 = .ok (.ifCond .ne 13, 3) := by decide +kernel
theorem dX4_made_11 : decode cX4_made 11 = .ok (.new 89, 3) := by decide +kernel
theorem dX4_made_14 : decode cX4_made 14 = .ok (.dup, 1) := by decide +kernel
theorem dX4_made_15 : decode cX4_made 15 = .ok (.ldc 220, 2) := by decide +kernel
theorem dX4_made_17 : decode cX4_made 17 = .ok (.invokespecial 93, 3) := by decide +kernel
theorem dX4_made_20 : decode cX4_made 20 = .ok (.athrow, 1) := by decide +kernel
theorem dX4_made_21 : decode cX4_made 21 = .ok (.aload_n 0, 1) := by decide +kernel
theorem dX4_made_22 : decode cX4_made 22 = .ok (.getfield 48, 3) := by decide +kernel
theorem dX4_made_25 : decode cX4_made 25 = .ok (.getfield 222, 3) := by decide +kernel
theorem dX4_made_28 : decode cX4_made 28 = .ok (.iload_n 1, 1) := by decide +kernel
theorem dX4_made_29 : decode cX4_made 29 = .ok (.caload, 1) := by decide +kernel
theorem dX4_made_30 : decode cX4_made 30 = .ok (.ireturn, 1) := by decide +kernel
theorem dX4_steamCost_0 : decode cX4_steamCost 0 = .ok (.aload_n 0, 1) := by decide +kernel
theorem dX4_steamCost_1 : decode cX4_steamCost 1 = .ok (.getfield 226, 3) := by decide +kernel
theorem dX4_steamCost_4 : decode cX4_steamCost 4 = .ok (.lreturn, 1) := by decide +kernel
theorem dX4_paperShare_0 : decode cX4_paperShare 0 = .ok (.aload_n 0, 1) := by decide +kernel
theorem dX4_paperShare_1 : decode cX4_paperShare 1 = .ok (.getfield 48, 3) := by decide +kernel
theorem dX4_paperShare_4 : decode cX4_paperShare 4 = .ok (.getfield 229, 3) := by decide +kernel
theorem dX4_paperShare_7 : decode cX4_paperShare 7 = .ok (.lconst 0, 1) := by decide +kernel
theorem dX4_paperShare_8 : decode cX4_paperShare 8 = .ok (.lcmp, 1) := by decide +kernel
theorem dX4_paperShare_9 : decode cX4_paperShare 9 = .ok (.ifCond .gt 13, 3) := by decide +kernel
theorem dX4_paperShare_12 : decode cX4_paperShare 12 = .ok (.new 232, 3) := by decide +kernel
theorem dX4_paperShare_15 : decode cX4_paperShare 15 = .ok (.dup, 1) := by decide +kernel
theorem dX4_paperShare_16 : decode cX4_paperShare 16 = .ok (.ldc 234, 2) := by decide +kernel
theorem dX4_paperShare_18 : decode cX4_paperShare 18 = .ok (.invokespecial 236, 3) := by decide +kernel
theorem dX4_paperShare_21 : decode cX4_paperShare 21 = .ok (.athrow, 1) := by decide +kernel
theorem dX4_paperShare_22 : decode cX4_paperShare 22 = .ok (.aload_n 0, 1) := by decide +kernel
theorem dX4_paperShare_23 : decode cX4_paperShare 23 = .ok (.getfield 48, 3) := by decide +kernel
theorem dX4_paperShare_26 : decode cX4_paperShare 26 = .ok (.getfield 213, 3) := by decide +kernel
theorem dX4_paperShare_29 : decode cX4_paperShare 29 = .ok (.l2f, 1) := by decide +kernel
theorem dX4_paperShare_30 : decode cX4_paperShare 30 = .ok (.aload_n 0, 1) := by decide +kernel
theorem dX4_paperShare_31 : decode cX4_paperShare 31 = .ok (.getfield 48, 3) := by decide +kernel
theorem dX4_paperShare_34 : decode cX4_paperShare 34 = .ok (.getfield 229, 3) := by decide +kernel
theorem dX4_paperShare_37 : decode cX4_paperShare 37 = .ok (.l2f, 1) := by decide +kernel
theorem dX4_paperShare_38 : decode cX4_paperShare 38 = .ok (.fdiv, 1) := by decide +kernel
theorem dX4_paperShare_39 : decode cX4_paperShare 39 = .ok (.freturn, 1) := by decide +kernel
theorem dX4_meanTrim_0 : decode cX4_meanTrim 0 = .ok (.aload_n 0, 1) := by decide +kernel
theorem dX4_meanTrim_1 : decode cX4_meanTrim 1 = .ok (.getfield 48, 3) := by decide +kernel
theorem dX4_meanTrim_4 : decode cX4_meanTrim 4 = .ok (.getfield 237, 3) := by decide +kernel
theorem dX4_meanTrim_7 : decode cX4_meanTrim 7 = .ok (.ifCond .gt 13, 3) := by decide +kernel
theorem dX4_meanTrim_10 : decode cX4_meanTrim 10 = .ok (.new 232, 3) := by decide +kernel
theorem dX4_meanTrim_13 : decode cX4_meanTrim 13 = .ok (.dup, 1) := by decide +kernel
theorem dX4_meanTrim_14 : decode cX4_meanTrim 14 = .ok (.ldc 240, 2) := by decide +kernel
theorem dX4_meanTrim_16 : decode cX4_meanTrim 16 = .ok (.invokespecial 236, 3) := by decide +kernel
theorem dX4_meanTrim_19 : decode cX4_meanTrim 19 = .ok (.athrow, 1) := by decide +kernel
theorem dX4_meanTrim_20 : decode cX4_meanTrim 20 = .ok (.aload_n 0, 1) := by decide +kernel
theorem dX4_meanTrim_21 : decode cX4_meanTrim 21 = .ok (.getfield 48, 3) := by decide +kernel
theorem dX4_meanTrim_24 : decode cX4_meanTrim 24 = .ok (.getfield 242, 3) := by decide +kernel
theorem dX4_meanTrim_27 : decode cX4_meanTrim 27 = .ok (.l2d, 1) := by decide +kernel
theorem dX4_meanTrim_28 : decode cX4_meanTrim 28 = .ok (.aload_n 0, 1) := by decide +kernel
theorem dX4_meanTrim_29 : decode cX4_meanTrim 29 = .ok (.getfield 48, 3) := by decide +kernel
theorem dX4_meanTrim_32 : decode cX4_meanTrim 32 = .ok (.getfield 237, 3) := by decide +kernel
theorem dX4_meanTrim_35 : decode cX4_meanTrim 35 = .ok (.i2d, 1) := by decide +kernel
theorem dX4_meanTrim_36 : decode cX4_meanTrim 36 = .ok (.ddiv, 1) := by decide +kernel
theorem dX4_meanTrim_37 : decode cX4_meanTrim 37 = .ok (.dreturn, 1) := by decide +kernel
theorem dX4_isGrade_0 : decode cX4_isGrade 0 = .ok (.iload_n 1, 1) := by decide +kernel
theorem dX4_isGrade_1 : decode cX4_isGrade 1 = .ok (.ifCond .lt 15, 3) := by decide +kernel
theorem dX4_isGrade_4 : decode cX4_isGrade 4 = .ok (.iload_n 1, 1) := by decide +kernel
theorem dX4_isGrade_5 : decode cX4_isGrade 5 = .ok (.aload_n 0, 1) := by decide +kernel
theorem dX4_isGrade_6 : decode cX4_isGrade 6 = .ok (.getfield 70, 3) := by decide +kernel
theorem dX4_isGrade_9 : decode cX4_isGrade 9 = .ok (.if_icmp .ge 7, 3) := by decide +kernel
theorem dX4_isGrade_12 : decode cX4_isGrade 12 = .ok (.iconst 1, 1) := by decide +kernel
theorem dX4_isGrade_13 : decode cX4_isGrade 13 = .ok (.goto 4, 3) := by decide +kernel
theorem dX4_isGrade_16 : decode cX4_isGrade 16 = .ok (.iconst 0, 1) := by decide +kernel
theorem dX4_isGrade_17 : decode cX4_isGrade 17 = .ok (.ireturn, 1) := by decide +kernel
theorem dX4_isWeightTaken_0 : decode cX4_isWeightTaken 0 = .ok (.iconst 0, 1) := by decide +kernel
theorem dX4_isWeightTaken_1 : decode cX4_isWeightTaken 1 = .ok (.istore_n 2, 1) := by decide +kernel
theorem dX4_isWeightTaken_2 : decode cX4_isWeightTaken 2 = .ok (.iload_n 2, 1) := by decide +kernel
theorem dX4_isWeightTaken_3 : decode cX4_isWeightTaken 3 = .ok (.aload_n 0, 1) := by decide +kernel
theorem dX4_isWeightTaken_4 : decode cX4_isWeightTaken 4 = .ok (.getfield 70, 3) := by decide +kernel
theorem dX4_isWeightTaken_7 : decode cX4_isWeightTaken 7 = .ok (.if_icmp .ge 21, 3) := by decide +kernel
theorem dX4_isWeightTaken_10 : decode cX4_isWeightTaken 10 = .ok (.aload_n 0, 1) := by decide +kernel
theorem dX4_isWeightTaken_11 : decode cX4_isWeightTaken 11 = .ok (.getfield 9, 3) := by decide +kernel
theorem dX4_isWeightTaken_14 : decode cX4_isWeightTaken 14 = .ok (.iload_n 2, 1) := by decide +kernel
theorem dX4_isWeightTaken_15 : decode cX4_isWeightTaken 15 = .ok (.iaload, 1) := by decide +kernel
theorem dX4_isWeightTaken_16 : decode cX4_isWeightTaken 16 = .ok (.iload_n 1, 1) := by decide +kernel
theorem dX4_isWeightTaken_17 : decode cX4_isWeightTaken 17 = .ok (.if_icmp .ne 5, 3) := by decide +kernel
theorem dX4_isWeightTaken_20 : decode cX4_isWeightTaken 20 = .ok (.iconst 1, 1) := by decide +kernel
theorem dX4_isWeightTaken_21 : decode cX4_isWeightTaken 21 = .ok (.ireturn, 1) := by decide +kernel
theorem dX4_isWeightTaken_22 : decode cX4_isWeightTaken 22 = .ok (.iinc 2 1, 3) := by decide +kernel
theorem dX4_isWeightTaken_25 : decode cX4_isWeightTaken 25 = .ok (.goto (-23), 3) := by decide +kernel
theorem dX4_isWeightTaken_28 : decode cX4_isWeightTaken 28 = .ok (.iconst 0, 1) := by decide +kernel
theorem dX4_isWeightTaken_29 : decode cX4_isWeightTaken 29 = .ok (.ireturn, 1) := by decide +kernel
set_option maxRecDepth 20000 in
theorem ggX4_massOfAnHour_X4_isGrade : GoodIn wsX4_massOfAnHour wsX4_isGrade := goodIn_r _ [7, 8, 9, 10, 11, 12, 13, 14, 15, 16, 17, 18, 19, 20, 21] (by decide +kernel) (by decide +kernel)
set_option maxRecDepth 20000 in
theorem gX4_massOfAnHour_X4_isGrade : GoodIn wsX4_massOfAnHour (wsV RX4 86 RX4 yX4_isGrade wsX4_isGrade) := goodIn_app (goodIn_of _ (by decide +kernel)) ggX4_massOfAnHour_X4_isGrade
theorem dX4_massOfAnHour_0 : decode cX4_massOfAnHour 0 = .ok (.aload_n 0, 1) := by decide +kernel
theorem dX4_massOfAnHour_1 : decode cX4_massOfAnHour 1 = .ok (.iload_n 1, 1) := by decide +kernel
theorem dX4_massOfAnHour_2 : decode cX4_massOfAnHour 2 = .ok (.invokevirtual 86, 3) := by decide +kernel
theorem dX4_massOfAnHour_5 : decode cX4_massOfAnHour 5 = .ok (.ifCond .eq 20, 3) := by decide +kernel
theorem dX4_massOfAnHour_8 : decode cX4_massOfAnHour 8 = .ok (.aload_n 0, 1) := by decide +kernel
theorem dX4_massOfAnHour_9 : decode cX4_massOfAnHour 9 = .ok (.getfield 9, 3) := by decide +kernel
theorem dX4_massOfAnHour_12 : decode cX4_massOfAnHour 12 = .ok (.iload_n 1, 1) := by decide +kernel
theorem dX4_massOfAnHour_13 : decode cX4_massOfAnHour 13 = .ok (.iaload, 1) := by decide +kernel
theorem dX4_massOfAnHour_14 : decode cX4_massOfAnHour 14 = .ok (.aload_n 0, 1) := by decide +kernel
theorem dX4_massOfAnHour_15 : decode cX4_massOfAnHour 15 = .ok (.getfield 13, 3) := by decide +kernel
theorem dX4_massOfAnHour_18 : decode cX4_massOfAnHour 18 = .ok (.imul, 1) := by decide +kernel
theorem dX4_massOfAnHour_19 : decode cX4_massOfAnHour 19 = .ok (.bipush 10, 2) := by decide +kernel
theorem dX4_massOfAnHour_21 : decode cX4_massOfAnHour 21 = .ok (.idiv, 1) := by decide +kernel
theorem dX4_massOfAnHour_22 : decode cX4_massOfAnHour 22 = .ok (.goto 4, 3) := by decide +kernel
theorem dX4_massOfAnHour_25 : decode cX4_massOfAnHour 25 = .ok (.iconst 0, 1) := by decide +kernel
theorem dX4_massOfAnHour_26 : decode cX4_massOfAnHour 26 = .ok (.ireturn, 1) := by decide +kernel
set_option maxRecDepth 20000 in
theorem ggX4_nearestWaiting_X3_rollsLacking : GoodIn wsX4_nearestWaiting wsX3_rollsLacking := goodIn_ca (goodIn_r _ [8, 9, 10, 11, 25, 26, 27, 28, 29] (by decide +kernel) (by decide +kernel)) (goodIn_sub (fun _ h => List.mem_cons_of_mem _ (List.mem_append_right _ h)) (by decide +kernel))
set_option maxRecDepth 20000 in
theorem gX4_nearestWaiting_X3_rollsLacking : GoodIn wsX4_nearestWaiting (wsV RX4 174 RX3 yX3_rollsLacking wsX3_rollsLacking) := goodIn_app (goodIn_of _ (by decide +kernel)) ggX4_nearestWaiting_X3_rollsLacking
theorem dX4_nearestWaiting_0 : decode cX4_nearestWaiting 0 = .ok (.iconst (-1), 1) := by decide +kernel
theorem dX4_nearestWaiting_1 : decode cX4_nearestWaiting 1 = .ok (.istore_n 3, 1) := by decide +kernel
theorem dX4_nearestWaiting_2 : decode cX4_nearestWaiting 2 = .ok (.iconst 0, 1) := by decide +kernel
theorem dX4_nearestWaiting_3 : decode cX4_nearestWaiting 3 = .ok (.istore 4, 2) := by decide +kernel
theorem dX4_nearestWaiting_5 : decode cX4_nearestWaiting 5 = .ok (.iconst 0, 1) := by decide +kernel
theorem dX4_nearestWaiting_6 : decode cX4_nearestWaiting 6 = .ok (.istore 5, 2) := by decide +kernel
theorem dX4_nearestWaiting_8 : decode cX4_nearestWaiting 8 = .ok (.iload 5, 2) := by decide +kernel
theorem dX4_nearestWaiting_10 : decode cX4_nearestWaiting 10 = .ok (.aload_n 0, 1) := by decide +kernel
theorem dX4_nearestWaiting_11 : decode cX4_nearestWaiting 11 = .ok (.getfield 70, 3) := by decide +kernel
theorem dX4_nearestWaiting_14 : decode cX4_nearestWaiting 14 = .ok (.if_icmp .ge 84, 3) := by decide +kernel
theorem dX4_nearestWaiting_17 : decode cX4_nearestWaiting 17 = .ok (.iload_n 2, 1) := by decide +kernel
theorem dX4_nearestWaiting_18 : decode cX4_nearestWaiting 18 = .ok (.ifCond .eq 15, 3) := by decide +kernel
theorem dX4_nearestWaiting_21 : decode cX4_nearestWaiting 21 = .ok (.aload_n 0, 1) := by decide +kernel
theorem dX4_nearestWaiting_22 : decode cX4_nearestWaiting 22 = .ok (.getfield 9, 3) := by decide +kernel
theorem dX4_nearestWaiting_25 : decode cX4_nearestWaiting 25 = .ok (.iload 5, 2) := by decide +kernel
theorem dX4_nearestWaiting_27 : decode cX4_nearestWaiting 27 = .ok (.iaload, 1) := by decide +kernel
theorem dX4_nearestWaiting_28 : decode cX4_nearestWaiting 28 = .ok (.iload_n 1, 1) := by decide +kernel
theorem dX4_nearestWaiting_29 : decode cX4_nearestWaiting 29 = .ok (.isub, 1) := by decide +kernel
theorem dX4_nearestWaiting_30 : decode cX4_nearestWaiting 30 = .ok (.goto 12, 3) := by decide +kernel
theorem dX4_nearestWaiting_33 : decode cX4_nearestWaiting 33 = .ok (.iload_n 1, 1) := by decide +kernel
theorem dX4_nearestWaiting_34 : decode cX4_nearestWaiting 34 = .ok (.aload_n 0, 1) := by decide +kernel
theorem dX4_nearestWaiting_35 : decode cX4_nearestWaiting 35 = .ok (.getfield 9, 3) := by decide +kernel
theorem dX4_nearestWaiting_38 : decode cX4_nearestWaiting 38 = .ok (.iload 5, 2) := by decide +kernel
theorem dX4_nearestWaiting_40 : decode cX4_nearestWaiting 40 = .ok (.iaload, 1) := by decide +kernel
theorem dX4_nearestWaiting_41 : decode cX4_nearestWaiting 41 = .ok (.isub, 1) := by decide +kernel
theorem dX4_nearestWaiting_42 : decode cX4_nearestWaiting 42 = .ok (.istore 6, 2) := by decide +kernel
theorem dX4_nearestWaiting_44 : decode cX4_nearestWaiting 44 = .ok (.iload 6, 2) := by decide +kernel
theorem dX4_nearestWaiting_46 : decode cX4_nearestWaiting 46 = .ok (.ifCond .le 19, 3) := by decide +kernel
theorem dX4_nearestWaiting_49 : decode cX4_nearestWaiting 49 = .ok (.iload_n 3, 1) := by decide +kernel
theorem dX4_nearestWaiting_50 : decode cX4_nearestWaiting 50 = .ok (.iconst (-1), 1) := by decide +kernel
theorem dX4_nearestWaiting_51 : decode cX4_nearestWaiting 51 = .ok (.if_icmp .eq 10, 3) := by decide +kernel
theorem dX4_nearestWaiting_54 : decode cX4_nearestWaiting 54 = .ok (.iload 6, 2) := by decide +kernel
theorem dX4_nearestWaiting_56 : decode cX4_nearestWaiting 56 = .ok (.iload 4, 2) := by decide +kernel
theorem dX4_nearestWaiting_58 : decode cX4_nearestWaiting 58 = .ok (.if_icmp .ge 7, 3) := by decide +kernel
theorem dX4_nearestWaiting_61 : decode cX4_nearestWaiting 61 = .ok (.iconst 1, 1) := by decide +kernel
theorem dX4_nearestWaiting_62 : decode cX4_nearestWaiting 62 = .ok (.goto 4, 3) := by decide +kernel
theorem dX4_nearestWaiting_65 : decode cX4_nearestWaiting 65 = .ok (.iconst 0, 1) := by decide +kernel
theorem dX4_nearestWaiting_66 : decode cX4_nearestWaiting 66 = .ok (.istore 7, 2) := by decide +kernel
theorem dX4_nearestWaiting_68 : decode cX4_nearestWaiting 68 = .ok (.iload 7, 2) := by decide +kernel
theorem dX4_nearestWaiting_70 : decode cX4_nearestWaiting 70 = .ok (.ifCond .eq 22, 3) := by decide +kernel
theorem dX4_nearestWaiting_73 : decode cX4_nearestWaiting 73 = .ok (.aload_n 0, 1) := by decide +kernel
theorem dX4_nearestWaiting_74 : decode cX4_nearestWaiting 74 = .ok (.getfield 27, 3) := by decide +kernel
theorem dX4_nearestWaiting_77 : decode cX4_nearestWaiting 77 = .ok (.iload 5, 2) := by decide +kernel
theorem dX4_nearestWaiting_79 : decode cX4_nearestWaiting 79 = .ok (.invokevirtual 174, 3) := by decide +kernel
theorem dX4_nearestWaiting_82 : decode cX4_nearestWaiting 82 = .ok (.ifCond .le 10, 3) := by decide +kernel
theorem dX4_nearestWaiting_85 : decode cX4_nearestWaiting 85 = .ok (.iload 5, 2) := by decide +kernel
theorem dX4_nearestWaiting_87 : decode cX4_nearestWaiting 87 = .ok (.istore_n 3, 1) := by decide +kernel
theorem dX4_nearestWaiting_88 : decode cX4_nearestWaiting 88 = .ok (.iload 6, 2) := by decide +kernel
theorem dX4_nearestWaiting_90 : decode cX4_nearestWaiting 90 = .ok (.istore 4, 2) := by decide +kernel
theorem dX4_nearestWaiting_92 : decode cX4_nearestWaiting 92 = .ok (.iinc 5 1, 3) := by decide +kernel
theorem dX4_nearestWaiting_95 : decode cX4_nearestWaiting 95 = .ok (.goto (-87), 3) := by decide +kernel
theorem dX4_nearestWaiting_98 : decode cX4_nearestWaiting 98 = .ok (.iload_n 3, 1) := by decide +kernel
end
section
theorem dX4_nearestWaiting_99 : decode cX4_nearestWaiting 99 = .ok (.ireturn, 1) := by decide +kernel
set_option maxRecDepth 20000 in
theorem ggX4_passAnHour_X4_isGrade : GoodIn wsX4_passAnHour wsX4_isGrade := goodIn_r _ [12, 13, 118, 119, 120, 121, 122, 123, 124, 125, 126, 127, 128, 129, 130] (by decide +kernel) (by decide +kernel)
set_option maxRecDepth 20000 in
theorem gX4_passAnHour_X4_isGrade : GoodIn wsX4_passAnHour (wsV RX4 86 RX4 yX4_isGrade wsX4_isGrade) := goodIn_app (goodIn_of _ (by decide +kernel)) ggX4_passAnHour_X4_isGrade
set_option maxRecDepth 20000 in
theorem ggX4_passAnHour_X2_writeNothing : GoodIn wsX4_passAnHour wsX2_writeNothing := goodIn_ca (goodIn_r _ [18, 19, 20, 21, 17, 22, 23, 24, 25, 26, 27, 28, 29, 30, 139, 140, 141, 142, 143, 144, 145, 146, 147, 148, 149] (by decide +kernel) (by decide +kernel)) (goodIn_sub (fun _ h => List.mem_cons_of_mem _ (List.mem_append_left _ (List.mem_append_right _ h))) (by decide +kernel))
set_option maxRecDepth 20000 in
theorem gX4_passAnHour_X2_writeNothing : GoodIn wsX4_passAnHour (wsV RX4 245 RX2 yX2_writeNothing wsX2_writeNothing) := goodIn_app (goodIn_of _ (by decide +kernel)) ggX4_passAnHour_X2_writeNothing
set_option maxRecDepth 20000 in
theorem ggX4_passAnHour_X4_massOfAnHour : GoodIn wsX4_passAnHour wsX4_massOfAnHour := goodIn_ca (goodIn_r _ [34, 35, 6, 8, 9, 10, 11, 12, 13, 118, 119, 120, 121, 122, 123, 124, 125, 126, 127, 128, 129, 130] (by decide +kernel) (by decide +kernel)) (goodIn_sub (fun _ h => List.mem_cons_of_mem _ (List.mem_append_left _ (List.mem_append_right _ h))) (by decide +kernel))
set_option maxRecDepth 20000 in
theorem gX4_passAnHour_X4_massOfAnHour : GoodIn wsX4_passAnHour (wsV RX4 118 RX4 yX4_massOfAnHour wsX4_massOfAnHour) := goodIn_app (goodIn_of _ (by decide +kernel)) ggX4_passAnHour_X4_massOfAnHour
set_option maxRecDepth 20000 in
theorem ggX4_passAnHour_X4_make : GoodIn wsX4_passAnHour wsX4_make := goodIn_ca (goodIn_r _ [39, 40, 41, 42, 43, 44, 45, 2, 46, 47, 48, 49, 20, 21, 17, 22, 23, 24, 25, 26, 27, 28, 29, 30, 50, 51, 52, 53, 54, 55, 56, 57, 58, 118, 119, 120, 121, 122, 123, 124, 125, 126, 127, 128, 129, 130, 139, 140, 141, 142, 143, 144, 145, 146, 147, 148, 149, 150, 151, 152] (by decide +kernel) (by decide +kernel)) (goodIn_sub (fun _ h => List.mem_cons_of_mem _ (List.mem_append_left _ (List.mem_append_right _ h))) (by decide +kernel))
set_option maxRecDepth 20000 in
theorem gX4_passAnHour_X4_make : GoodIn wsX4_passAnHour (wsV RX4 248 RX4 yX4_make wsX4_make) := goodIn_app (goodIn_of _ (by decide +kernel)) ggX4_passAnHour_X4_make
set_option maxRecDepth 20000 in
theorem ggX4_passAnHour_X1_load : GoodIn wsX4_passAnHour wsX1_load := goodIn_ca (goodIn_r _ [63, 64, 43, 44, 45, 65, 66, 67, 68, 69, 70, 71, 72, 73, 74, 75, 76, 77, 78, 79, 80, 131, 132, 133, 134, 135, 136, 137, 138, 153, 154, 155, 156, 157] (by decide +kernel) (by decide +kernel)) (goodIn_sub (fun _ h => List.mem_cons_of_mem _ (List.mem_append_left _ (List.mem_append_right _ h))) (by decide +kernel))
set_option maxRecDepth 20000 in
theorem gX4_passAnHour_X1_load : GoodIn wsX4_passAnHour (wsV RX4 151 RX1 yX1_load wsX1_load) := goodIn_app (goodIn_of _ (by decide +kernel)) ggX4_passAnHour_X1_load
set_option maxRecDepth 20000 in
theorem ggX4_passAnHour_X1_sumBySearch : GoodIn wsX4_passAnHour wsX1_sumBySearch := goodIn_ca (goodIn_r _ [84, 85, 86, 87, 88, 89, 90, 91, 92, 62, 93, 74, 68, 64, 43, 44, 45, 72, 70, 94, 95, 96, 97, 98, 99, 100, 101, 102, 131, 132, 133, 134, 135, 136, 137, 138] (by decide +kernel) (by decide +kernel)) (goodIn_sub (fun _ h => List.mem_cons_of_mem _ (List.mem_append_left _ (List.mem_append_right _ h))) (by decide +kernel))
set_option maxRecDepth 20000 in
theorem gX4_passAnHour_X1_sumBySearch : GoodIn wsX4_passAnHour (wsV RX4 155 RX1 yX1_sumBySearch wsX1_sumBySearch) := goodIn_app (goodIn_of _ (by decide +kernel)) ggX4_passAnHour_X1_sumBySearch
set_option maxRecDepth 20000 in
theorem ggX4_passAnHour_X4_quotient : GoodIn wsX4_passAnHour wsX4_quotient := goodIn_ca (goodIn_r _ [105] (by decide +kernel) (by decide +kernel)) (goodIn_sub (fun _ h => List.mem_cons_of_mem _ (List.mem_append_right _ h)) (by decide +kernel))
set_option maxRecDepth 20000 in
theorem gX4_passAnHour_X4_quotient : GoodIn wsX4_passAnHour (va_wsS RX4 252 yX4_quotient wsX4_quotient) := goodIn_app (goodIn_of _ (by decide +kernel)) ggX4_passAnHour_X4_quotient
set_option maxRecDepth 20000 in
theorem ggX4_passAnHour_X2_writeTrim : GoodIn wsX4_passAnHour wsX2_writeTrim := goodIn_r _ [109, 110, 111, 139, 140, 141, 142, 143, 144, 145, 146, 147, 148, 149] (by decide +kernel) (by decide +kernel)
set_option maxRecDepth 20000 in
theorem gX4_passAnHour_X2_writeTrim : GoodIn wsX4_passAnHour (wsV RX4 255 RX2 yX2_writeTrim wsX2_writeTrim) := goodIn_app (goodIn_of _ (by decide +kernel)) ggX4_passAnHour_X2_writeTrim
set_option maxRecDepth 20000 in
theorem ggX4_passAnHour_X3_takeOff : GoodIn wsX4_passAnHour wsX3_takeOff := goodIn_ca (goodIn_r _ [115, 80, 116, 117, 153, 154, 155, 156, 157] (by decide +kernel) (by decide +kernel)) (goodIn_sub (fun _ h => List.mem_cons_of_mem _ (List.mem_append_left _ (List.mem_append_right _ h))) (by decide +kernel))
set_option maxRecDepth 20000 in
theorem gX4_passAnHour_X3_takeOff : GoodIn wsX4_passAnHour (wsV RX4 259 RX3 yX3_takeOff wsX3_takeOff) := goodIn_app (goodIn_of _ (by decide +kernel)) ggX4_passAnHour_X3_takeOff
theorem dX4_passAnHour_0 : decode cX4_passAnHour 0 = .ok (.aload_n 0, 1) := by decide +kernel
theorem dX4_passAnHour_1 : decode cX4_passAnHour 1 = .ok (.aload_n 0, 1) := by decide +kernel
theorem dX4_passAnHour_2 : decode cX4_passAnHour 2 = .ok (.getfield 17, 3) := by decide +kernel
theorem dX4_passAnHour_5 : decode cX4_passAnHour 5 = .ok (.invokevirtual 86, 3) := by decide +kernel
theorem dX4_passAnHour_8 : decode cX4_passAnHour 8 = .ok (.ifCond .ne 12, 3) := by decide +kernel
theorem dX4_passAnHour_11 : decode cX4_passAnHour 11 = .ok (.aload_n 0, 1) := by decide +kernel
theorem dX4_passAnHour_12 : decode cX4_passAnHour 12 = .ok (.getfield 48, 3) := by decide +kernel
theorem dX4_passAnHour_15 : decode cX4_passAnHour 15 = .ok (.invokevirtual 245, 3) := by decide +kernel
theorem dX4_passAnHour_18 : decode cX4_passAnHour 18 = .ok (.iconst 0, 1) := by decide +kernel
theorem dX4_passAnHour_19 : decode cX4_passAnHour 19 = .ok (.ireturn, 1) := by decide +kernel
theorem dX4_passAnHour_20 : decode cX4_passAnHour 20 = .ok (.aload_n 0, 1) := by decide +kernel
theorem dX4_passAnHour_21 : decode cX4_passAnHour 21 = .ok (.aload_n 0, 1) := by decide +kernel
theorem dX4_passAnHour_22 : decode cX4_passAnHour 22 = .ok (.getfield 17, 3) := by decide +kernel
theorem dX4_passAnHour_25 : decode cX4_passAnHour 25 = .ok (.invokevirtual 118, 3) := by decide +kernel
theorem dX4_passAnHour_28 : decode cX4_passAnHour 28 = .ok (.istore_n 1, 1) := by decide +kernel
theorem dX4_passAnHour_29 : decode cX4_passAnHour 29 = .ok (.aload_n 0, 1) := by decide +kernel
theorem dX4_passAnHour_30 : decode cX4_passAnHour 30 = .ok (.getfield 96, 3) := by decide +kernel
theorem dX4_passAnHour_33 : decode cX4_passAnHour 33 = .ok (.ifCond .le 23, 3) := by decide +kernel
theorem dX4_passAnHour_36 : decode cX4_passAnHour 36 = .ok (.aload_n 0, 1) := by decide +kernel
theorem dX4_passAnHour_37 : decode cX4_passAnHour 37 = .ok (.bipush 99, 2) := by decide +kernel
theorem dX4_passAnHour_39 : decode cX4_passAnHour 39 = .ok (.iload_n 1, 1) := by decide +kernel
theorem dX4_passAnHour_40 : decode cX4_passAnHour 40 = .ok (.iload_n 1, 1) := by decide +kernel
theorem dX4_passAnHour_41 : decode cX4_passAnHour 41 = .ok (.invokevirtual 248, 3) := by decide +kernel
theorem dX4_passAnHour_44 : decode cX4_passAnHour 44 = .ok (.aload_n 0, 1) := by decide +kernel
theorem dX4_passAnHour_45 : decode cX4_passAnHour 45 = .ok (.dup, 1) := by decide +kernel
theorem dX4_passAnHour_46 : decode cX4_passAnHour 46 = .ok (.getfield 96, 3) := by decide +kernel
theorem dX4_passAnHour_49 : decode cX4_passAnHour 49 = .ok (.iconst 1, 1) := by decide +kernel
theorem dX4_passAnHour_50 : decode cX4_passAnHour 50 = .ok (.isub, 1) := by decide +kernel
theorem dX4_passAnHour_51 : decode cX4_passAnHour 51 = .ok (.putfield 96, 3) := by decide +kernel
theorem dX4_passAnHour_54 : decode cX4_passAnHour 54 = .ok (.iconst 0, 1) := by decide +kernel
theorem dX4_passAnHour_55 : decode cX4_passAnHour 55 = .ok (.ireturn, 1) := by decide +kernel
theorem dX4_passAnHour_56 : decode cX4_passAnHour 56 = .ok (.aload_n 0, 1) := by decide +kernel
theorem dX4_passAnHour_57 : decode cX4_passAnHour 57 = .ok (.getfield 34, 3) := by decide +kernel
theorem dX4_passAnHour_60 : decode cX4_passAnHour 60 = .ok (.aload_n 0, 1) := by decide +kernel
theorem dX4_passAnHour_61 : decode cX4_passAnHour 61 = .ok (.getfield 27, 3) := by decide +kernel
theorem dX4_passAnHour_64 : decode cX4_passAnHour 64 = .ok (.aload_n 0, 1) := by decide +kernel
theorem dX4_passAnHour_65 : decode cX4_passAnHour 65 = .ok (.getfield 17, 3) := by decide +kernel
theorem dX4_passAnHour_68 : decode cX4_passAnHour 68 = .ok (.aload_n 0, 1) := by decide +kernel
theorem dX4_passAnHour_69 : decode cX4_passAnHour 69 = .ok (.getfield 13, 3) := by decide +kernel
theorem dX4_passAnHour_72 : decode cX4_passAnHour 72 = .ok (.invokevirtual 151, 3) := by decide +kernel
theorem dX4_passAnHour_75 : decode cX4_passAnHour 75 = .ok (.aload_n 0, 1) := by decide +kernel
theorem dX4_passAnHour_76 : decode cX4_passAnHour 76 = .ok (.getfield 34, 3) := by decide +kernel
theorem dX4_passAnHour_79 : decode cX4_passAnHour 79 = .ok (.invokevirtual 155, 3) := by decide +kernel
theorem dX4_passAnHour_82 : decode cX4_passAnHour 82 = .ok (.istore_n 2, 1) := by decide +kernel
theorem dX4_passAnHour_83 : decode cX4_passAnHour 83 = .ok (.iload_n 2, 1) := by decide +kernel
theorem dX4_passAnHour_84 : decode cX4_passAnHour 84 = .ok (.ifCond .gt 12, 3) := by decide +kernel
theorem dX4_passAnHour_87 : decode cX4_passAnHour 87 = .ok (.aload_n 0, 1) := by decide +kernel
theorem dX4_passAnHour_88 : decode cX4_passAnHour 88 = .ok (.getfield 48, 3) := by decide +kernel
theorem dX4_passAnHour_91 : decode cX4_passAnHour 91 = .ok (.invokevirtual 245, 3) := by decide +kernel
theorem dX4_passAnHour_94 : decode cX4_passAnHour 94 = .ok (.iconst 0, 1) := by decide +kernel
theorem dX4_passAnHour_95 : decode cX4_passAnHour 95 = .ok (.ireturn, 1) := by decide +kernel
theorem dX4_passAnHour_96 : decode cX4_passAnHour 96 = .ok (.aload_n 0, 1) := by decide +kernel
theorem dX4_passAnHour_97 : decode cX4_passAnHour 97 = .ok (.getfield 13, 3) := by decide +kernel
theorem dX4_passAnHour_100 : decode cX4_passAnHour 100 = .ok (.iload_n 2, 1) := by decide +kernel
theorem dX4_passAnHour_101 : decode cX4_passAnHour 101 = .ok (.isub, 1) := by decide +kernel
theorem dX4_passAnHour_102 : decode cX4_passAnHour 102 = .ok (.istore_n 3, 1) := by decide +kernel
theorem dX4_passAnHour_103 : decode cX4_passAnHour 103 = .ok (.aload_n 0, 1) := by decide +kernel
theorem dX4_passAnHour_104 : decode cX4_passAnHour 104 = .ok (.bipush 112, 2) := by decide +kernel
theorem dX4_passAnHour_106 : decode cX4_passAnHour 106 = .ok (.iload_n 1, 1) := by decide +kernel
theorem dX4_passAnHour_107 : decode cX4_passAnHour 107 = .ok (.iload_n 1, 1) := by decide +kernel
theorem dX4_passAnHour_108 : decode cX4_passAnHour 108 = .ok (.iload_n 3, 1) := by decide +kernel
theorem dX4_passAnHour_109 : decode cX4_passAnHour 109 = .ok (.imul, 1) := by decide +kernel
theorem dX4_passAnHour_110 : decode cX4_passAnHour 110 = .ok (.aload_n 0, 1) := by decide +kernel
theorem dX4_passAnHour_111 : decode cX4_passAnHour 111 = .ok (.getfield 13, 3) := by decide +kernel
theorem dX4_passAnHour_114 : decode cX4_passAnHour 114 = .ok (.invokestatic 252, 3) := by decide +kernel
theorem dX4_passAnHour_117 : decode cX4_passAnHour 117 = .ok (.invokevirtual 248, 3) := by decide +kernel
theorem dX4_passAnHour_120 : decode cX4_passAnHour 120 = .ok (.aload_n 0, 1) := by decide +kernel
theorem dX4_passAnHour_121 : decode cX4_passAnHour 121 = .ok (.getfield 48, 3) := by decide +kernel
theorem dX4_passAnHour_124 : decode cX4_passAnHour 124 = .ok (.iload_n 3, 1) := by decide +kernel
theorem dX4_passAnHour_125 : decode cX4_passAnHour 125 = .ok (.invokevirtual 255, 3) := by decide +kernel
theorem dX4_passAnHour_128 : decode cX4_passAnHour 128 = .ok (.aload_n 0, 1) := by decide +kernel
theorem dX4_passAnHour_129 : decode cX4_passAnHour 129 = .ok (.getfield 27, 3) := by decide +kernel
theorem dX4_passAnHour_132 : decode cX4_passAnHour 132 = .ok (.aload_n 0, 1) := by decide +kernel
theorem dX4_passAnHour_133 : decode cX4_passAnHour 133 = .ok (.getfield 34, 3) := by decide +kernel
theorem dX4_passAnHour_136 : decode cX4_passAnHour 136 = .ok (.getfield 164, 3) := by decide +kernel
theorem dX4_passAnHour_139 : decode cX4_passAnHour 139 = .ok (.invokevirtual 259, 3) := by decide +kernel
theorem dX4_passAnHour_142 : decode cX4_passAnHour 142 = .ok (.ireturn, 1) := by decide +kernel
set_option maxRecDepth 20000 in
theorem ggX4_make_X2_writeMade : GoodIn wsX4_make wsX2_writeMade := goodIn_ca (goodIn_r _ [15, 16, 17, 18, 19, 20, 21, 22, 23, 46, 47, 48, 49, 50, 51, 52, 53, 54, 55, 56] (by decide +kernel) (by decide +kernel)) (goodIn_sub (fun _ h => List.mem_cons_of_mem _ (List.mem_append_right _ h)) (by decide +kernel))
set_option maxRecDepth 20000 in
theorem gX4_make_X2_writeMade : GoodIn wsX4_make (wsV RX4 266 RX2 yX2_writeMade wsX2_writeMade) := goodIn_app (goodIn_of _ (by decide +kernel)) ggX4_make_X2_writeMade
set_option maxRecDepth 20000 in
theorem ggX4_make_X0_cost : GoodIn wsX4_make wsX0_cost := goodIn_r _ [28, 29, 30, 4, 5, 6, 31, 32, 57, 58, 59] (by decide +kernel) (by decide +kernel)
set_option maxRecDepth 20000 in
theorem gX4_make_X0_cost : GoodIn wsX4_make (wsV RX4 270 RX0 yX0_cost wsX0_cost) := goodIn_app (goodIn_of _ (by decide +kernel)) ggX4_make_X0_cost
theorem dX4_make_0 : decode cX4_make 0 = .ok (.iload_n 2, 1) := by decide +kernel
theorem dX4_make_1 : decode cX4_make 1 = .ok (.bipush 50, 2) := by decide +kernel
theorem dX4_make_3 : decode cX4_make 3 = .ok (.idiv, 1) := by decide +kernel
theorem dX4_make_4 : decode cX4_make 4 = .ok (.istore 4, 2) := by decide +kernel
theorem dX4_make_6 : decode cX4_make 6 = .ok (.iload_n 2, 1) := by decide +kernel
theorem dX4_make_7 : decode cX4_make 7 = .ok (.iload 4, 2) := by decide +kernel
theorem dX4_make_9 : decode cX4_make 9 = .ok (.iadd, 1) := by decide +kernel
theorem dX4_make_10 : decode cX4_make 10 = .ok (.istore 5, 2) := by decide +kernel
theorem dX4_make_12 : decode cX4_make 12 = .ok (.aload_n 0, 1) := by decide +kernel
theorem dX4_make_13 : decode cX4_make 13 = .ok (.getfield 203, 3) := by decide +kernel
theorem dX4_make_16 : decode cX4_make 16 = .ok (.iload 5, 2) := by decide +kernel
theorem dX4_make_18 : decode cX4_make 18 = .ok (.aload_n 0, 1) := by decide +kernel
theorem dX4_make_19 : decode cX4_make 19 = .ok (.getfield 52, 3) := by decide +kernel
theorem dX4_make_22 : decode cX4_make 22 = .ok (.imul, 1) := by decide +kernel
theorem dX4_make_23 : decode cX4_make 23 = .ok (.bipush 100, 2) := by decide +kernel
theorem dX4_make_25 : decode cX4_make 25 = .ok (.idiv, 1) := by decide +kernel
theorem dX4_make_26 : decode cX4_make 26 = .ok (.invokestatic 263, 3) := by decide +kernel
theorem dX4_make_29 : decode cX4_make 29 = .ok (.istore 6, 2) := by decide +kernel
theorem dX4_make_31 : decode cX4_make 31 = .ok (.aload_n 0, 1) := by decide +kernel
theorem dX4_make_32 : decode cX4_make 32 = .ok (.dup, 1) := by decide +kernel
theorem dX4_make_33 : decode cX4_make 33 = .ok (.getfield 203, 3) := by decide +kernel
theorem dX4_make_36 : decode cX4_make 36 = .ok (.iload_n 3, 1) := by decide +kernel
theorem dX4_make_37 : decode cX4_make 37 = .ok (.iload 6, 2) := by decide +kernel
theorem dX4_make_39 : decode cX4_make 39 = .ok (.isub, 1) := by decide +kernel
theorem dX4_make_40 : decode cX4_make 40 = .ok (.iadd, 1) := by decide +kernel
theorem dX4_make_41 : decode cX4_make 41 = .ok (.putfield 203, 3) := by decide +kernel
theorem dX4_make_44 : decode cX4_make 44 = .ok (.aload_n 0, 1) := by decide +kernel
theorem dX4_make_45 : decode cX4_make 45 = .ok (.getfield 48, 3) := by decide +kernel
theorem dX4_make_48 : decode cX4_make 48 = .ok (.iload_n 1, 1) := by decide +kernel
theorem dX4_make_49 : decode cX4_make 49 = .ok (.iload 5, 2) := by decide +kernel
theorem dX4_make_51 : decode cX4_make 51 = .ok (.iload 6, 2) := by decide +kernel
theorem dX4_make_53 : decode cX4_make 53 = .ok (.isub, 1) := by decide +kernel
theorem dX4_make_54 : decode cX4_make 54 = .ok (.iload_n 2, 1) := by decide +kernel
theorem dX4_make_55 : decode cX4_make 55 = .ok (.iload_n 3, 1) := by decide +kernel
theorem dX4_make_56 : decode cX4_make 56 = .ok (.isub, 1) := by decide +kernel
theorem dX4_make_57 : decode cX4_make 57 = .ok (.iload 4, 2) := by decide +kernel
theorem dX4_make_59 : decode cX4_make 59 = .ok (.invokevirtual 266, 3) := by decide +kernel
theorem dX4_make_62 : decode cX4_make 62 = .ok (.aload_n 0, 1) := by decide +kernel
theorem dX4_make_63 : decode cX4_make 63 = .ok (.getfield 48, 3) := by decide +kernel
theorem dX4_make_66 : decode cX4_make 66 = .ok (.dup, 1) := by decide +kernel
theorem dX4_make_67 : decode cX4_make 67 = .ok (.getfield 229, 3) := by decide +kernel
theorem dX4_make_70 : decode cX4_make 70 = .ok (.iload_n 2, 1) := by decide +kernel
theorem dX4_make_71 : decode cX4_make 71 = .ok (.i2l, 1) := by decide +kernel
theorem dX4_make_72 : decode cX4_make 72 = .ok (.ladd, 1) := by decide +kernel
theorem dX4_make_73 : decode cX4_make 73 = .ok (.putfield 229, 3) := by decide +kernel
theorem dX4_make_76 : decode cX4_make 76 = .ok (.aload_n 0, 1) := by decide +kernel
theorem dX4_make_77 : decode cX4_make 77 = .ok (.dup, 1) := by decide +kernel
theorem dX4_make_78 : decode cX4_make 78 = .ok (.getfield 226, 3) := by decide +kernel
theorem dX4_make_81 : decode cX4_make 81 = .ok (.aload_n 0, 1) := by decide +kernel
theorem dX4_make_82 : decode cX4_make 82 = .ok (.getfield 41, 3) := by decide +kernel
theorem dX4_make_85 : decode cX4_make 85 = .ok (.iload_n 2, 1) := by decide +kernel
theorem dX4_make_86 : decode cX4_make 86 = .ok (.iconst 2, 1) := by decide +kernel
theorem dX4_make_87 : decode cX4_make 87 = .ok (.idiv, 1) := by decide +kernel
theorem dX4_make_88 : decode cX4_make 88 = .ok (.invokevirtual 270, 3) := by decide +kernel
theorem dX4_make_91 : decode cX4_make 91 = .ok (.ladd, 1) := by decide +kernel
theorem dX4_make_92 : decode cX4_make 92 = .ok (.putfield 226, 3) := by decide +kernel
theorem dX4_make_95 : decode cX4_make 95 = .ok (.return_, 1) := by decide +kernel
theorem dX4_isWithin_0 : decode cX4_isWithin 0 = .ok (.iload_n 0, 1) := by decide +kernel
theorem dX4_isWithin_1 : decode cX4_isWithin 1 = .ok (.iload_n 1, 1) := by decide +kernel
theorem dX4_isWithin_2 : decode cX4_isWithin 2 = .ok (.if_icmp .lt 12, 3) := by decide +kernel
theorem dX4_isWithin_5 : decode cX4_isWithin 5 = .ok (.iload_n 0, 1) := by decide +kernel
theorem dX4_isWithin_6 : decode cX4_isWithin 6 = .ok (.iload_n 2, 1) := by decide +kernel
theorem dX4_isWithin_7 : decode cX4_isWithin 7 = .ok (.if_icmp .gt 7, 3) := by decide +kernel
theorem dX4_isWithin_10 : decode cX4_isWithin 10 = .ok (.iconst 1, 1) := by decide +kernel
theorem dX4_isWithin_11 : decode cX4_isWithin 11 = .ok (.goto 4, 3) := by decide +kernel
theorem dX4_isWithin_14 : decode cX4_isWithin 14 = .ok (.iconst 0, 1) := by decide +kernel
theorem dX4_isWithin_15 : decode cX4_isWithin 15 = .ok (.ireturn, 1) := by decide +kernel
theorem dX4_quotient_0 : decode cX4_quotient 0 = .ok (.iload_n 1, 1) := by decide +kernel
theorem dX4_quotient_1 : decode cX4_quotient 1 = .ok (.ifCond .le 9, 3) := by decide +kernel
theorem dX4_quotient_4 : decode cX4_quotient 4 = .ok (.iload_n 0, 1) := by decide +kernel
theorem dX4_quotient_5 : decode cX4_quotient 5 = .ok (.iload_n 1, 1) := by decide +kernel
theorem dX4_quotient_6 : decode cX4_quotient 6 = .ok (.idiv, 1) := by decide +kernel
theorem dX4_quotient_7 : decode cX4_quotient 7 = .ok (.goto 4, 3) := by decide +kernel
theorem dX4_quotient_10 : decode cX4_quotient 10 = .ok (.iconst 0, 1) := by decide +kernel
theorem dX4_quotient_11 : decode cX4_quotient 11 = .ok (.ireturn, 1) := by decide +kernel
theorem dX4_quotientUp_0 : decode cX4_quotientUp 0 = .ok (.iload_n 1, 1) := by decide +kernel
theorem dX4_quotientUp_1 : decode cX4_quotientUp 1 = .ok (.ifCond .le 13, 3) := by decide +kernel
theorem dX4_quotientUp_4 : decode cX4_quotientUp 4 = .ok (.iload_n 0, 1) := by decide +kernel
theorem dX4_quotientUp_5 : decode cX4_quotientUp 5 = .ok (.iload_n 1, 1) := by decide +kernel
theorem dX4_quotientUp_6 : decode cX4_quotientUp 6 = .ok (.iadd, 1) := by decide +kernel
theorem dX4_quotientUp_7 : decode cX4_quotientUp 7 = .ok (.iconst 1, 1) := by decide +kernel
theorem dX4_quotientUp_8 : decode cX4_quotientUp 8 = .ok (.isub, 1) := by decide +kernel
theorem dX4_quotientUp_9 : decode cX4_quotientUp 9 = .ok (.iload_n 1, 1) := by decide +kernel
theorem dX4_quotientUp_10 : decode cX4_quotientUp 10 = .ok (.idiv, 1) := by decide +kernel
theorem dX4_quotientUp_11 : decode cX4_quotientUp 11 = .ok (.goto 4, 3) := by decide +kernel
theorem dX4_quotientUp_14 : decode cX4_quotientUp 14 = .ok (.iconst 0, 1) := by decide +kernel
theorem dX4_quotientUp_15 : decode cX4_quotientUp 15 = .ok (.ireturn, 1) := by decide +kernel
theorem dX5_init_0 : decode cX5_init 0 = .ok (.aload_n 0, 1) := by decide +kernel
theorem dX5_init_1 : decode cX5_init 1 = .ok (.invokespecial 1, 3) := by decide +kernel
theorem dX5_init_4 : decode cX5_init 4 = .ok (.aload_n 0, 1) := by decide +kernel
theorem dX5_init_5 : decode cX5_init 5 = .ok (.bipush 6, 2) := by decide +kernel
theorem dX5_init_7 : decode cX5_init 7 = .ok (.newarray .int, 2) := by decide +kernel
theorem dX5_init_9 : decode cX5_init 9 = .ok (.putfield 9, 3) := by decide +kernel
theorem dX5_init_12 : decode cX5_init 12 = .ok (.aload_n 0, 1) := by decide +kernel
theorem dX5_init_13 : decode cX5_init 13 = .ok (.sipush 600, 3) := by decide +kernel
theorem dX5_init_16 : decode cX5_init 16 = .ok (.putfield 13, 3) := by decide +kernel
theorem dX5_init_19 : decode cX5_init 19 = .ok (.aload_n 0, 1) := by decide +kernel
theorem dX5_init_20 : decode cX5_init 20 = .ok (.iconst (-1), 1) := by decide +kernel
theorem dX5_init_21 : decode cX5_init 21 = .ok (.putfield 17, 3) := by decide +kernel
theorem dX5_init_24 : decode cX5_init 24 = .ok (.aload_n 0, 1) := by decide +kernel
theorem dX5_init_25 : decode cX5_init 25 = .ok (.iconst 1, 1) := by decide +kernel
theorem dX5_init_26 : decode cX5_init 26 = .ok (.putfield 20, 3) := by decide +kernel
theorem dX5_init_29 : decode cX5_init 29 = .ok (.aload_n 0, 1) := by decide +kernel
theorem dX5_init_30 : decode cX5_init 30 = .ok (.bipush 10, 2) := by decide +kernel
theorem dX5_init_32 : decode cX5_init 32 = .ok (.newarray .int, 2) := by decide +kernel
theorem dX5_init_34 : decode cX5_init 34 = .ok (.putfield 24, 3) := by decide +kernel
theorem dX5_init_37 : decode cX5_init 37 = .ok (.aload_n 0, 1) := by decide +kernel
theorem dX5_init_38 : decode cX5_init 38 = .ok (.bipush 10, 2) := by decide +kernel
theorem dX5_init_40 : decode cX5_init 40 = .ok (.newarray .int, 2) := by decide +kernel
theorem dX5_init_42 : decode cX5_init 42 = .ok (.putfield 27, 3) := by decide +kernel
theorem dX5_init_45 : decode cX5_init 45 = .ok (.aload_n 0, 1) := by decide +kernel
theorem dX5_init_46 : decode cX5_init 46 = .ok (.bipush 10, 2) := by decide +kernel
theorem dX5_init_48 : decode cX5_init 48 = .ok (.newarray .int, 2) := by decide +kernel
theorem dX5_init_50 : decode cX5_init 50 = .ok (.putfield 30, 3) := by decide +kernel
theorem dX5_init_53 : decode cX5_init 53 = .ok (.aload_n 0, 1) := by decide +kernel
theorem dX5_init_54 : decode cX5_init 54 = .ok (.bipush 10, 2) := by decide +kernel
theorem dX5_init_56 : decode cX5_init 56 = .ok (.newarray .int, 2) := by decide +kernel
theorem dX5_init_58 : decode cX5_init 58 = .ok (.putfield 33, 3) := by decide +kernel
theorem dX5_init_61 : decode cX5_init 61 = .ok (.aload_n 0, 1) := by decide +kernel
theorem dX5_init_62 : decode cX5_init 62 = .ok (.bipush 20, 2) := by decide +kernel
theorem dX5_init_64 : decode cX5_init 64 = .ok (.putfield 36, 3) := by decide +kernel
theorem dX5_init_67 : decode cX5_init 67 = .ok (.aload_n 0, 1) := by decide +kernel
theorem dX5_init_68 : decode cX5_init 68 = .ok (.sipush 2000, 3) := by decide +kernel
theorem dX5_init_71 : decode cX5_init 71 = .ok (.putfield 39, 3) := by decide +kernel
theorem dX5_init_74 : decode cX5_init 74 = .ok (.aload_n 0, 1) := by decide +kernel
theorem dX5_init_75 : decode cX5_init 75 = .ok (.iconst 3, 1) := by decide +kernel
theorem dX5_init_76 : decode cX5_init 76 = .ok (.putfield 42, 3) := by decide +kernel
theorem dX5_init_79 : decode cX5_init 79 = .ok (.aload_n 0, 1) := by decide +kernel
theorem dX5_init_80 : decode cX5_init 80 = .ok (.iconst 5, 1) := by decide +kernel
theorem dX5_init_81 : decode cX5_init 81 = .ok (.putfield 45, 3) := by decide +kernel
theorem dX5_init_84 : decode cX5_init 84 = .ok (.aload_n 0, 1) := by decide +kernel
theorem dX5_init_85 : decode cX5_init 85 = .ok (.sipush 400, 3) := by decide +kernel
theorem dX5_init_88 : decode cX5_init 88 = .ok (.newarray .char, 2) := by decide +kernel
theorem dX5_init_90 : decode cX5_init 90 = .ok (.putfield 48, 3) := by decide +kernel
theorem dX5_init_93 : decode cX5_init 93 = .ok (.aload_n 0, 1) := by decide +kernel
theorem dX5_init_94 : decode cX5_init 94 = .ok (.bipush 10, 2) := by decide +kernel
theorem dX5_init_96 : decode cX5_init 96 = .ok (.newarray .int, 2) := by decide +kernel
theorem dX5_init_98 : decode cX5_init 98 = .ok (.putfield 52, 3) := by decide +kernel
theorem dX5_init_101 : decode cX5_init 101 = .ok (.aload_n 0, 1) := by decide +kernel
theorem dX5_init_102 : decode cX5_init 102 = .ok (.bipush 10, 2) := by decide +kernel
theorem dX5_init_104 : decode cX5_init 104 = .ok (.newarray .int, 2) := by decide +kernel
theorem dX5_init_106 : decode cX5_init 106 = .ok (.putfield 55, 3) := by decide +kernel
theorem dX5_init_109 : decode cX5_init 109 = .ok (.return_, 1) := by decide +kernel
theorem dX5_thrown_0 : decode cX5_thrown 0 = .ok (.aload_n 0, 1) := by decide +kernel
theorem dX5_thrown_1 : decode cX5_thrown 1 = .ok (.getfield 58, 3) := by decide +kernel
theorem dX5_thrown_4 : decode cX5_thrown 4 = .ok (.ireturn, 1) := by decide +kernel
theorem dX5_in_0 : decode cX5_in 0 = .ok (.iload_n 0, 1) := by decide +kernel
theorem dX5_in_1 : decode cX5_in 1 = .ok (.iload_n 1, 1) := by decide +kernel
theorem dX5_in_2 : decode cX5_in 2 = .ok (.if_icmp .lt 12, 3) := by decide +kernel
theorem dX5_in_5 : decode cX5_in 5 = .ok (.iload_n 0, 1) := by decide +kernel
theorem dX5_in_6 : decode cX5_in 6 = .ok (.iload_n 2, 1) := by decide +kernel
theorem dX5_in_7 : decode cX5_in 7 = .ok (.if_icmp .gt 7, 3) := by decide +kernel
theorem dX5_in_10 : decode cX5_in 10 = .ok (.iconst 1, 1) := by decide +kernel
theorem dX5_in_11 : decode cX5_in 11 = .ok (.goto 4, 3) := by decide +kernel
theorem dX5_in_14 : decode cX5_in 14 = .ok (.iconst 0, 1) := by decide +kernel
theorem dX5_in_15 : decode cX5_in 15 = .ok (.ireturn, 1) := by decide +kernel
theorem dX5_goesOn_0 : decode cX5_goesOn 0 = .ok (.aload_n 0, 1) := by decide +kernel
theorem dX5_goesOn_1 : decode cX5_goesOn 1 = .ok (.iload_n 1, 1) := by decide +kernel
theorem dX5_goesOn_2 : decode cX5_goesOn 2 = .ok (.putfield 58, 3) := by decide +kernel
theorem dX5_goesOn_5 : decode cX5_goesOn 5 = .ok (.iload_n 1, 1) := by decide +kernel
theorem dX5_goesOn_6 : decode cX5_goesOn 6 = .ok (.ifCond .ne 7, 3) := by decide +kernel
theorem dX5_goesOn_9 : decode cX5_goesOn 9 = .ok (.iconst 1, 1) := by decide +kernel
theorem dX5_goesOn_10 : decode cX5_goesOn 10 = .ok (.goto 4, 3) := by decide +kernel
theorem dX5_goesOn_13 : decode cX5_goesOn 13 = .ok (.iconst 0, 1) := by decide +kernel
theorem dX5_goesOn_14 : decode cX5_goesOn 14 = .ok (.ireturn, 1) := by decide +kernel
set_option maxRecDepth 20000 in
theorem ggX5_isGrade_X5_in : GoodIn wsX5_isGrade wsX5_in := goodIn_r _ [5] (by decide +kernel) (by decide +kernel)
set_option maxRecDepth 20000 in
theorem gX5_isGrade_X5_in : GoodIn wsX5_isGrade (va_wsS RX5 64 yX5_in wsX5_in) := goodIn_app (goodIn_of _ (by decide +kernel)) ggX5_isGrade_X5_in
theorem dX5_isGrade_0 : decode cX5_isGrade 0 = .ok (.iload_n 1, 1) := by decide +kernel
theorem dX5_isGrade_1 : decode cX5_isGrade 1 = .ok (.iconst 0, 1) := by decide +kernel
theorem dX5_isGrade_2 : decode cX5_isGrade 2 = .ok (.aload_n 0, 1) := by decide +kernel
theorem dX5_isGrade_3 : decode cX5_isGrade 3 = .ok (.getfield 61, 3) := by decide +kernel
theorem dX5_isGrade_6 : decode cX5_isGrade 6 = .ok (.iconst 1, 1) := by decide +kernel
theorem dX5_isGrade_7 : decode cX5_isGrade 7 = .ok (.isub, 1) := by decide +kernel
theorem dX5_isGrade_8 : decode cX5_isGrade 8 = .ok (.invokestatic 64, 3) := by decide +kernel
theorem dX5_isGrade_11 : decode cX5_isGrade 11 = .ok (.ireturn, 1) := by decide +kernel
set_option maxRecDepth 20000 in
theorem ggX5_isOrder_X5_in : GoodIn wsX5_isOrder wsX5_in := goodIn_r _ [5] (by decide +kernel) (by decide +kernel)
set_option maxRecDepth 20000 in
theorem gX5_isOrder_X5_in : GoodIn wsX5_isOrder (va_wsS RX5 64 yX5_in wsX5_in) := goodIn_app (goodIn_of _ (by decide +kernel)) ggX5_isOrder_X5_in
theorem dX5_isOrder_0 : decode cX5_isOrder 0 = .ok (.iload_n 1, 1) := by decide +kernel
theorem dX5_isOrder_1 : decode cX5_isOrder 1 = .ok (.iconst 0, 1) := by decide +kernel
theorem dX5_isOrder_2 : decode cX5_isOrder 2 = .ok (.aload_n 0, 1) := by decide +kernel
theorem dX5_isOrder_3 : decode cX5_isOrder 3 = .ok (.getfield 68, 3) := by decide +kernel
theorem dX5_isOrder_6 : decode cX5_isOrder 6 = .ok (.iconst 1, 1) := by decide +kernel
theorem dX5_isOrder_7 : decode cX5_isOrder 7 = .ok (.isub, 1) := by decide +kernel
theorem dX5_isOrder_8 : decode cX5_isOrder 8 = .ok (.invokestatic 64, 3) := by decide +kernel
theorem dX5_isOrder_11 : decode cX5_isOrder 11 = .ok (.ireturn, 1) := by decide +kernel
theorem dX5_hasWeight_0 : decode cX5_hasWeight 0 = .ok (.iconst 0, 1) := by decide +kernel
theorem dX5_hasWeight_1 : decode cX5_hasWeight 1 = .ok (.istore_n 2, 1) := by decide +kernel
theorem dX5_hasWeight_2 : decode cX5_hasWeight 2 = .ok (.iconst 0, 1) := by decide +kernel
theorem dX5_hasWeight_3 : decode cX5_hasWeight 3 = .ok (.istore_n 3, 1) := by decide +kernel
theorem dX5_hasWeight_4 : decode cX5_hasWeight 4 = .ok (.iload_n 3, 1) := by decide +kernel
theorem dX5_hasWeight_5 : decode cX5_hasWeight 5 = .ok (.aload_n 0, 1) := by decide +kernel
theorem dX5_hasWeight_6 : decode cX5_hasWeight 6 = .ok (.getfield 61, 3) := by decide +kernel
theorem dX5_hasWeight_9 : decode cX5_hasWeight 9 = .ok (.if_icmp .ge 29, 3) := by decide +kernel
theorem dX5_hasWeight_12 : decode cX5_hasWeight 12 = .ok (.iload_n 2, 1) := by decide +kernel
theorem dX5_hasWeight_13 : decode cX5_hasWeight 13 = .ok (.ifCond .ne 13, 3) := by decide +kernel
theorem dX5_hasWeight_16 : decode cX5_hasWeight 16 = .ok (.aload_n 0, 1) := by decide +kernel
theorem dX5_hasWeight_17 : decode cX5_hasWeight 17 = .ok (.getfield 9, 3) := by decide +kernel
theorem dX5_hasWeight_20 : decode cX5_hasWeight 20 = .ok (.iload_n 3, 1) := by decide +kernel
theorem dX5_hasWeight_21 : decode cX5_hasWeight 21 = .ok (.iaload, 1) := by decide +kernel
theorem dX5_hasWeight_22 : decode cX5_hasWeight 22 = .ok (.iload_n 1, 1) := by decide +kernel
theorem dX5_hasWeight_23 : decode cX5_hasWeight 23 = .ok (.if_icmp .ne 7, 3) := by decide +kernel
theorem dX5_hasWeight_26 : decode cX5_hasWeight 26 = .ok (.iconst 1, 1) := by decide +kernel
theorem dX5_hasWeight_27 : decode cX5_hasWeight 27 = .ok (.goto 4, 3) := by decide +kernel
theorem dX5_hasWeight_30 : decode cX5_hasWeight 30 = .ok (.iconst 0, 1) := by decide +kernel
theorem dX5_hasWeight_31 : decode cX5_hasWeight 31 = .ok (.istore_n 2, 1) := by decide +kernel
theorem dX5_hasWeight_32 : decode cX5_hasWeight 32 = .ok (.iinc 3 1, 3) := by decide +kernel
theorem dX5_hasWeight_35 : decode cX5_hasWeight 35 = .ok (.goto (-31), 3) := by decide +kernel
theorem dX5_hasWeight_38 : decode cX5_hasWeight 38 = .ok (.iload_n 2, 1) := by decide +kernel
theorem dX5_hasWeight_39 : decode cX5_hasWeight 39 = .ok (.ireturn, 1) := by decide +kernel
set_option maxRecDepth 20000 in
theorem ggX5_addGrade_X5_in : GoodIn wsX5_addGrade wsX5_in := goodIn_r _ [6] (by decide +kernel) (by decide +kernel)
set_option maxRecDepth 20000 in
theorem gX5_addGrade_X5_in : GoodIn wsX5_addGrade (va_wsS RX5 64 yX5_in wsX5_in) := goodIn_app (goodIn_of _ (by decide +kernel)) ggX5_addGrade_X5_in
set_option maxRecDepth 20000 in
theorem ggX5_addGrade_X5_hasWeight : GoodIn wsX5_addGrade wsX5_hasWeight := goodIn_ca (goodIn_r _ [10, 1, 2, 16, 17, 18, 19, 20, 21, 22, 23, 24, 25, 26, 27, 28, 29, 30, 31, 32, 33, 34, 35, 36, 37, 38, 39, 40, 41, 42, 43, 44] (by decide +kernel) (by decide +kernel)) (goodIn_sub (fun _ h => List.mem_cons_of_mem _ (List.mem_append_right _ h)) (by decide +kernel))
set_option maxRecDepth 20000 in
theorem gX5_addGrade_X5_hasWeight : GoodIn wsX5_addGrade (wsV RX5 71 RX5 yX5_hasWeight wsX5_hasWeight) := goodIn_app (goodIn_of _ (by decide +kernel)) ggX5_addGrade_X5_hasWeight
set_option maxRecDepth 20000 in
theorem ggX5_addGrade_X5_goesOn : GoodIn wsX5_addGrade wsX5_goesOn := goodIn_r _ [14, 15, 16, 17, 18, 19, 20, 21, 22, 23, 24, 25, 26, 27, 28, 29, 30, 31, 32, 33, 34, 35, 36, 37, 38, 39, 40, 41, 42, 43, 44] (by decide +kernel) (by decide +kernel)
set_option maxRecDepth 20000 in
theorem gX5_addGrade_X5_goesOn : GoodIn wsX5_addGrade (wsV RX5 75 RX5 yX5_goesOn wsX5_goesOn) := goodIn_app (goodIn_of _ (by decide +kernel)) ggX5_addGrade_X5_goesOn
theorem dX5_addGrade_0 : decode cX5_addGrade 0 = .ok (.aload_n 0, 1) := by decide +kernel
theorem dX5_addGrade_1 : decode cX5_addGrade 1 = .ok (.iload_n 1, 1) := by decide +kernel
theorem dX5_addGrade_2 : decode cX5_addGrade 2 = .ok (.bipush 40, 2) := by decide +kernel
theorem dX5_addGrade_4 : decode cX5_addGrade 4 = .ok (.sipush 200, 3) := by decide +kernel
theorem dX5_addGrade_7 : decode cX5_addGrade 7 = .ok (.invokestatic 64, 3) := by decide +kernel
theorem dX5_addGrade_10 : decode cX5_addGrade 10 = .ok (.ifCond .eq 11, 3) := by decide +kernel
theorem dX5_addGrade_13 : decode cX5_addGrade 13 = .ok (.aload_n 0, 1) := by decide +kernel
theorem dX5_addGrade_14 : decode cX5_addGrade 14 = .ok (.iload_n 1, 1) := by decide +kernel
theorem dX5_addGrade_15 : decode cX5_addGrade 15 = .ok (.invokevirtual 71, 3) := by decide +kernel
theorem dX5_addGrade_18 : decode cX5_addGrade 18 = .ok (.ifCond .eq 7, 3) := by decide +kernel
theorem dX5_addGrade_21 : decode cX5_addGrade 21 = .ok (.iconst 1, 1) := by decide +kernel
theorem dX5_addGrade_22 : decode cX5_addGrade 22 = .ok (.goto 17, 3) := by decide +kernel
theorem dX5_addGrade_25 : decode cX5_addGrade 25 = .ok (.aload_n 0, 1) := by decide +kernel
theorem dX5_addGrade_26 : decode cX5_addGrade 26 = .ok (.getfield 61, 3) := by decide +kernel
theorem dX5_addGrade_29 : decode cX5_addGrade 29 = .ok (.bipush 6, 2) := by decide +kernel
theorem dX5_addGrade_31 : decode cX5_addGrade 31 = .ok (.if_icmp .ne 7, 3) := by decide +kernel
theorem dX5_addGrade_34 : decode cX5_addGrade 34 = .ok (.iconst 2, 1) := by decide +kernel
theorem dX5_addGrade_35 : decode cX5_addGrade 35 = .ok (.goto 4, 3) := by decide +kernel
theorem dX5_addGrade_38 : decode cX5_addGrade 38 = .ok (.iconst 0, 1) := by decide +kernel
theorem dX5_addGrade_39 : decode cX5_addGrade 39 = .ok (.invokevirtual 75, 3) := by decide +kernel
theorem dX5_addGrade_42 : decode cX5_addGrade 42 = .ok (.ifCond .ne 5, 3) := by decide +kernel
theorem dX5_addGrade_45 : decode cX5_addGrade 45 = .ok (.iconst 0, 1) := by decide +kernel
theorem dX5_addGrade_46 : decode cX5_addGrade 46 = .ok (.ireturn, 1) := by decide +kernel
theorem dX5_addGrade_47 : decode cX5_addGrade 47 = .ok (.aload_n 0, 1) := by decide +kernel
theorem dX5_addGrade_48 : decode cX5_addGrade 48 = .ok (.getfield 9, 3) := by decide +kernel
theorem dX5_addGrade_51 : decode cX5_addGrade 51 = .ok (.aload_n 0, 1) := by decide +kernel
theorem dX5_addGrade_52 : decode cX5_addGrade 52 = .ok (.getfield 61, 3) := by decide +kernel
theorem dX5_addGrade_55 : decode cX5_addGrade 55 = .ok (.iload_n 1, 1) := by decide +kernel
theorem dX5_addGrade_56 : decode cX5_addGrade 56 = .ok (.iastore, 1) := by decide +kernel
theorem dX5_addGrade_57 : decode cX5_addGrade 57 = .ok (.aload_n 0, 1) := by decide +kernel
theorem dX5_addGrade_58 : decode cX5_addGrade 58 = .ok (.dup, 1) := by decide +kernel
theorem dX5_addGrade_59 : decode cX5_addGrade 59 = .ok (.getfield 61, 3) := by decide +kernel
theorem dX5_addGrade_62 : decode cX5_addGrade 62 = .ok (.iconst 1, 1) := by decide +kernel
theorem dX5_addGrade_63 : decode cX5_addGrade 63 = .ok (.iadd, 1) := by decide +kernel
theorem dX5_addGrade_64 : decode cX5_addGrade 64 = .ok (.putfield 61, 3) := by decide +kernel
theorem dX5_addGrade_67 : decode cX5_addGrade 67 = .ok (.aload_n 0, 1) := by decide +kernel
theorem dX5_addGrade_68 : decode cX5_addGrade 68 = .ok (.getfield 61, 3) := by decide +kernel
theorem dX5_addGrade_71 : decode cX5_addGrade 71 = .ok (.iconst 1, 1) := by decide +kernel
theorem dX5_addGrade_72 : decode cX5_addGrade 72 = .ok (.isub, 1) := by decide +kernel
theorem dX5_addGrade_73 : decode cX5_addGrade 73 = .ok (.ireturn, 1) := by decide +kernel
set_option maxRecDepth 20000 in
theorem ggX5_setWidth_X5_in : GoodIn wsX5_setWidth wsX5_in := goodIn_r _ [8] (by decide +kernel) (by decide +kernel)
set_option maxRecDepth 20000 in
theorem gX5_setWidth_X5_in : GoodIn wsX5_setWidth (va_wsS RX5 64 yX5_in wsX5_in) := goodIn_app (goodIn_of _ (by decide +kernel)) ggX5_setWidth_X5_in
set_option maxRecDepth 20000 in
theorem ggX5_setWidth_X5_goesOn : GoodIn wsX5_setWidth wsX5_goesOn := goodIn_r _ [12, 13, 14, 15, 16, 17, 18, 19, 20, 21, 22, 23, 24, 25, 26, 27, 28, 29, 30, 31, 32, 33, 34, 35, 36, 37, 38, 39, 40, 41, 42] (by decide +kernel) (by decide +kernel)
set_option maxRecDepth 20000 in
theorem gX5_setWidth_X5_goesOn : GoodIn wsX5_setWidth (wsV RX5 75 RX5 yX5_goesOn wsX5_goesOn) := goodIn_app (goodIn_of _ (by decide +kernel)) ggX5_setWidth_X5_goesOn
theorem dX5_setWidth_0 : decode cX5_setWidth 0 = .ok (.iconst 0, 1) := by decide +kernel
theorem dX5_setWidth_1 : decode cX5_setWidth 1 = .ok (.istore_n 2, 1) := by decide +kernel
theorem dX5_setWidth_2 : decode cX5_setWidth 2 = .ok (.iconst 0, 1) := by decide +kernel
theorem dX5_setWidth_3 : decode cX5_setWidth 3 = .ok (.istore_n 3, 1) := by decide +kernel
theorem dX5_setWidth_4 : decode cX5_setWidth 4 = .ok (.iload_n 3, 1) := by decide +kernel
theorem dX5_setWidth_5 : decode cX5_setWidth 5 = .ok (.aload_n 0, 1) := by decide +kernel
theorem dX5_setWidth_6 : decode cX5_setWidth 6 = .ok (.getfield 68, 3) := by decide +kernel
theorem dX5_setWidth_9 : decode cX5_setWidth 9 = .ok (.if_icmp .ge 38, 3) := by decide +kernel
theorem dX5_setWidth_12 : decode cX5_setWidth 12 = .ok (.iload_n 2, 1) := by decide +kernel
theorem dX5_setWidth_13 : decode cX5_setWidth 13 = .ok (.ifCond .ne 22, 3) := by decide +kernel
theorem dX5_setWidth_16 : decode cX5_setWidth 16 = .ok (.aload_n 0, 1) := by decide +kernel
theorem dX5_setWidth_17 : decode cX5_setWidth 17 = .ok (.getfield 30, 3) := by decide +kernel
theorem dX5_setWidth_20 : decode cX5_setWidth 20 = .ok (.iload_n 3, 1) := by decide +kernel
theorem dX5_setWidth_21 : decode cX5_setWidth 21 = .ok (.iaload, 1) := by decide +kernel
theorem dX5_setWidth_22 : decode cX5_setWidth 22 = .ok (.ifCond .le 17, 3) := by decide +kernel
theorem dX5_setWidth_25 : decode cX5_setWidth 25 = .ok (.aload_n 0, 1) := by decide +kernel
theorem dX5_setWidth_26 : decode cX5_setWidth 26 = .ok (.getfield 27, 3) := by decide +kernel
theorem dX5_setWidth_29 : decode cX5_setWidth 29 = .ok (.iload_n 3, 1) := by decide +kernel
theorem dX5_setWidth_30 : decode cX5_setWidth 30 = .ok (.iaload, 1) := by decide +kernel
theorem dX5_setWidth_31 : decode cX5_setWidth 31 = .ok (.iload_n 1, 1) := by decide +kernel
theorem dX5_setWidth_32 : decode cX5_setWidth 32 = .ok (.if_icmp .le 7, 3) := by decide +kernel
theorem dX5_setWidth_35 : decode cX5_setWidth 35 = .ok (.iconst 1, 1) := by decide +kernel
theorem dX5_setWidth_36 : decode cX5_setWidth 36 = .ok (.goto 4, 3) := by decide +kernel
theorem dX5_setWidth_39 : decode cX5_setWidth 39 = .ok (.iconst 0, 1) := by decide +kernel
theorem dX5_setWidth_40 : decode cX5_setWidth 40 = .ok (.istore_n 2, 1) := by decide +kernel
theorem dX5_setWidth_41 : decode cX5_setWidth 41 = .ok (.iinc 3 1, 3) := by decide +kernel
theorem dX5_setWidth_44 : decode cX5_setWidth 44 = .ok (.goto (-40), 3) := by decide +kernel
theorem dX5_setWidth_47 : decode cX5_setWidth 47 = .ok (.aload_n 0, 1) := by decide +kernel
theorem dX5_setWidth_48 : decode cX5_setWidth 48 = .ok (.iload_n 1, 1) := by decide +kernel
theorem dX5_setWidth_49 : decode cX5_setWidth 49 = .ok (.sipush 200, 3) := by decide +kernel
theorem dX5_setWidth_52 : decode cX5_setWidth 52 = .ok (.sipush 800, 3) := by decide +kernel
theorem dX5_setWidth_55 : decode cX5_setWidth 55 = .ok (.invokestatic 64, 3) := by decide +kernel
theorem dX5_setWidth_58 : decode cX5_setWidth 58 = .ok (.ifCond .ne 7, 3) := by decide +kernel
theorem dX5_setWidth_61 : decode cX5_setWidth 61 = .ok (.iconst 1, 1) := by decide +kernel
theorem dX5_setWidth_62 : decode cX5_setWidth 62 = .ok (.goto 12, 3) := by decide +kernel
theorem dX5_setWidth_65 : decode cX5_setWidth 65 = .ok (.iload_n 2, 1) := by decide +kernel
theorem dX5_setWidth_66 : decode cX5_setWidth 66 = .ok (.ifCond .eq 7, 3) := by decide +kernel
theorem dX5_setWidth_69 : decode cX5_setWidth 69 = .ok (.iconst 2, 1) := by decide +kernel
theorem dX5_setWidth_70 : decode cX5_setWidth 70 = .ok (.goto 4, 3) := by decide +kernel
theorem dX5_setWidth_73 : decode cX5_setWidth 73 = .ok (.iconst 0, 1) := by decide +kernel
theorem dX5_setWidth_74 : decode cX5_setWidth 74 = .ok (.invokevirtual 75, 3) := by decide +kernel
theorem dX5_setWidth_77 : decode cX5_setWidth 77 = .ok (.ifCond .ne 5, 3) := by decide +kernel
theorem dX5_setWidth_80 : decode cX5_setWidth 80 = .ok (.iconst 0, 1) := by decide +kernel
theorem dX5_setWidth_81 : decode cX5_setWidth 81 = .ok (.ireturn, 1) := by decide +kernel
theorem dX5_setWidth_82 : decode cX5_setWidth 82 = .ok (.aload_n 0, 1) := by decide +kernel
theorem dX5_setWidth_83 : decode cX5_setWidth 83 = .ok (.getfield 13, 3) := by decide +kernel
theorem dX5_setWidth_86 : decode cX5_setWidth 86 = .ok (.istore_n 3, 1) := by decide +kernel
theorem dX5_setWidth_87 : decode cX5_setWidth 87 = .ok (.aload_n 0, 1) := by decide +kernel
theorem dX5_setWidth_88 : decode cX5_setWidth 88 = .ok (.iload_n 1, 1) := by decide +kernel
theorem dX5_setWidth_89 : decode cX5_setWidth 89 = .ok (.putfield 13, 3) := by decide +kernel
theorem dX5_setWidth_92 : decode cX5_setWidth 92 = .ok (.iload_n 3, 1) := by decide +kernel
theorem dX5_setWidth_93 : decode cX5_setWidth 93 = .ok (.ireturn, 1) := by decide +kernel
set_option maxRecDepth 20000 in
theorem ggX5_change_X5_isGrade : GoodIn wsX5_change wsX5_isGrade := goodIn_r _ [9, 10, 11, 12, 8, 13, 19, 20, 21, 22, 23, 24, 25, 26, 27, 28, 29, 30, 31, 32, 33, 34, 35, 36, 37, 38, 39, 40, 41, 42, 43, 44, 45, 46, 47] (by decide +kernel) (by decide +kernel)
set_option maxRecDepth 20000 in
theorem gX5_change_X5_isGrade : GoodIn wsX5_change (wsV RX5 78 RX5 yX5_isGrade wsX5_isGrade) := goodIn_app (goodIn_of _ (by decide +kernel)) ggX5_change_X5_isGrade
set_option maxRecDepth 20000 in
theorem ggX5_change_X5_goesOn : GoodIn wsX5_change wsX5_goesOn := goodIn_r _ [17, 18, 19, 20, 21, 22, 23, 24, 25, 26, 27, 28, 29, 30, 31, 32, 33, 34, 35, 36, 37, 38, 39, 40, 41, 42, 43, 44, 45, 46, 47] (by decide +kernel) (by decide +kernel)
set_option maxRecDepth 20000 in
theorem gX5_change_X5_goesOn : GoodIn wsX5_change (wsV RX5 75 RX5 yX5_goesOn wsX5_goesOn) := goodIn_app (goodIn_of _ (by decide +kernel)) ggX5_change_X5_goesOn
theorem dX5_change_0 : decode cX5_change 0 = .ok (.aload_n 0, 1) := by decide +kernel
theorem dX5_change_1 : decode cX5_change 1 = .ok (.aload_n 0, 1) := by decide +kernel
theorem dX5_change_2 : decode cX5_change 2 = .ok (.iload_n 1, 1) := by decide +kernel
theorem dX5_change_3 : decode cX5_change 3 = .ok (.invokevirtual 78, 3) := by decide +kernel
theorem dX5_change_6 : decode cX5_change 6 = .ok (.ifCond .ne 7, 3) := by decide +kernel
theorem dX5_change_9 : decode cX5_change 9 = .ok (.iconst 1, 1) := by decide +kernel
theorem dX5_change_10 : decode cX5_change 10 = .ok (.goto 27, 3) := by decide +kernel
theorem dX5_change_13 : decode cX5_change 13 = .ok (.iload_n 1, 1) := by decide +kernel
theorem dX5_change_14 : decode cX5_change 14 = .ok (.aload_n 0, 1) := by decide +kernel
theorem dX5_change_15 : decode cX5_change 15 = .ok (.getfield 17, 3) := by decide +kernel
theorem dX5_change_18 : decode cX5_change 18 = .ok (.if_icmp .ne 7, 3) := by decide +kernel
theorem dX5_change_21 : decode cX5_change 21 = .ok (.iconst 2, 1) := by decide +kernel
theorem dX5_change_22 : decode cX5_change 22 = .ok (.goto 15, 3) := by decide +kernel
theorem dX5_change_25 : decode cX5_change 25 = .ok (.aload_n 0, 1) := by decide +kernel
theorem dX5_change_26 : decode cX5_change 26 = .ok (.getfield 81, 3) := by decide +kernel
theorem dX5_change_29 : decode cX5_change 29 = .ok (.ifCond .le 7, 3) := by decide +kernel
theorem dX5_change_32 : decode cX5_change 32 = .ok (.iconst 3, 1) := by decide +kernel
theorem dX5_change_33 : decode cX5_change 33 = .ok (.goto 4, 3) := by decide +kernel
theorem dX5_change_36 : decode cX5_change 36 = .ok (.iconst 0, 1) := by decide +kernel
theorem dX5_change_37 : decode cX5_change 37 = .ok (.invokevirtual 75, 3) := by decide +kernel
theorem dX5_change_40 : decode cX5_change 40 = .ok (.ifCond .ne 5, 3) := by decide +kernel
theorem dX5_change_43 : decode cX5_change 43 = .ok (.iconst 0, 1) := by decide +kernel
theorem dX5_change_44 : decode cX5_change 44 = .ok (.ireturn, 1) := by decide +kernel
theorem dX5_change_45 : decode cX5_change 45 = .ok (.aload_n 0, 1) := by decide +kernel
theorem dX5_change_46 : decode cX5_change 46 = .ok (.iconst 1, 1) := by decide +kernel
theorem dX5_change_47 : decode cX5_change 47 = .ok (.putfield 81, 3) := by decide +kernel
theorem dX5_change_50 : decode cX5_change 50 = .ok (.aload_n 0, 1) := by decide +kernel
theorem dX5_change_51 : decode cX5_change 51 = .ok (.getfield 17, 3) := by decide +kernel
theorem dX5_change_54 : decode cX5_change 54 = .ok (.iconst (-1), 1) := by decide +kernel
theorem dX5_change_55 : decode cX5_change 55 = .ok (.if_icmp .eq 55, 3) := by decide +kernel
theorem dX5_change_58 : decode cX5_change 58 = .ok (.aload_n 0, 1) := by decide +kernel
theorem dX5_change_59 : decode cX5_change 59 = .ok (.getfield 9, 3) := by decide +kernel
theorem dX5_change_62 : decode cX5_change 62 = .ok (.iload_n 1, 1) := by decide +kernel
theorem dX5_change_63 : decode cX5_change 63 = .ok (.iaload, 1) := by decide +kernel
theorem dX5_change_64 : decode cX5_change 64 = .ok (.aload_n 0, 1) := by decide +kernel
theorem dX5_change_65 : decode cX5_change 65 = .ok (.getfield 9, 3) := by decide +kernel
theorem dX5_change_68 : decode cX5_change 68 = .ok (.aload_n 0, 1) := by decide +kernel
theorem dX5_change_69 : decode cX5_change 69 = .ok (.getfield 17, 3) := by decide +kernel
theorem dX5_change_72 : decode cX5_change 72 = .ok (.iaload, 1) := by decide +kernel
theorem dX5_change_73 : decode cX5_change 73 = .ok (.isub, 1) := by decide +kernel
theorem dX5_change_74 : decode cX5_change 74 = .ok (.istore_n 2, 1) := by decide +kernel
theorem dX5_change_75 : decode cX5_change 75 = .ok (.aload_n 0, 1) := by decide +kernel
theorem dX5_change_76 : decode cX5_change 76 = .ok (.iload_n 2, 1) := by decide +kernel
theorem dX5_change_77 : decode cX5_change 77 = .ok (.ifCond .le 7, 3) := by decide +kernel
theorem dX5_change_80 : decode cX5_change 80 = .ok (.iconst 1, 1) := by decide +kernel
theorem dX5_change_81 : decode cX5_change 81 = .ok (.goto 4, 3) := by decide +kernel
theorem dX5_change_84 : decode cX5_change 84 = .ok (.iconst 0, 1) := by decide +kernel
theorem dX5_change_85 : decode cX5_change 85 = .ok (.putfield 20, 3) := by decide +kernel
theorem dX5_change_88 : decode cX5_change 88 = .ok (.aload_n 0, 1) := by decide +kernel
theorem dX5_change_89 : decode cX5_change 89 = .ok (.dup, 1) := by decide +kernel
theorem dX5_change_90 : decode cX5_change 90 = .ok (.getfield 81, 3) := by decide +kernel
theorem dX5_change_93 : decode cX5_change 93 = .ok (.iload_n 2, 1) := by decide +kernel
theorem dX5_change_94 : decode cX5_change 94 = .ok (.ifCond .ge 8, 3) := by decide +kernel
theorem dX5_change_97 : decode cX5_change 97 = .ok (.iload_n 2, 1) := by decide +kernel
theorem dX5_change_98 : decode cX5_change 98 = .ok (.ineg, 1) := by decide +kernel
theorem dX5_change_99 : decode cX5_change 99 = .ok (.goto 4, 3) := by decide +kernel
theorem dX5_change_102 : decode cX5_change 102 = .ok (.iload_n 2, 1) := by decide +kernel
theorem dX5_change_103 : decode cX5_change 103 = .ok (.bipush 40, 2) := by decide +kernel
theorem dX5_change_105 : decode cX5_change 105 = .ok (.idiv, 1) := by decide +kernel
theorem dX5_change_106 : decode cX5_change 106 = .ok (.iadd, 1) := by decide +kernel
theorem dX5_change_107 : decode cX5_change 107 = .ok (.putfield 81, 3) := by decide +kernel
theorem dX5_change_110 : decode cX5_change 110 = .ok (.aload_n 0, 1) := by decide +kernel
theorem dX5_change_111 : decode cX5_change 111 = .ok (.iload_n 1, 1) := by decide +kernel
theorem dX5_change_112 : decode cX5_change 112 = .ok (.putfield 17, 3) := by decide +kernel
theorem dX5_change_115 : decode cX5_change 115 = .ok (.aload_n 0, 1) := by decide +kernel
theorem dX5_change_116 : decode cX5_change 116 = .ok (.getfield 81, 3) := by decide +kernel
theorem dX5_change_119 : decode cX5_change 119 = .ok (.ireturn, 1) := by decide +kernel
set_option maxRecDepth 20000 in
theorem ggX5_grade_X5_goesOn : GoodIn wsX5_grade wsX5_goesOn := goodIn_r _ [6, 7, 8, 9, 10, 11, 12, 13, 14, 15, 16, 17, 18, 19, 20, 21, 22, 23, 24, 25, 26, 27, 28, 29, 30, 31, 32, 33, 34, 35, 36] (by decide +kernel) (by decide +kernel)
set_option maxRecDepth 20000 in
theorem gX5_grade_X5_goesOn : GoodIn wsX5_grade (wsV RX5 75 RX5 yX5_goesOn wsX5_goesOn) := goodIn_app (goodIn_of _ (by decide +kernel)) ggX5_grade_X5_goesOn
theorem dX5_grade_0 : decode cX5_grade 0 = .ok (.aload_n 0, 1) := by decide +kernel
theorem dX5_grade_1 : decode cX5_grade 1 = .ok (.aload_n 0, 1) := by decide +kernel
theorem dX5_grade_2 : decode cX5_grade 2 = .ok (.getfield 17, 3) := by decide +kernel
theorem dX5_grade_5 : decode cX5_grade 5 = .ok (.iconst (-1), 1) := by decide +kernel
theorem dX5_grade_6 : decode cX5_grade 6 = .ok (.if_icmp .ne 7, 3) := by decide +kernel
theorem dX5_grade_9 : decode cX5_grade 9 = .ok (.iconst 1, 1) := by decide +kernel
theorem dX5_grade_10 : decode cX5_grade 10 = .ok (.goto 4, 3) := by decide +kernel
theorem dX5_grade_13 : decode cX5_grade 13 = .ok (.iconst 0, 1) := by decide +kernel
theorem dX5_grade_14 : decode cX5_grade 14 = .ok (.invokevirtual 75, 3) := by decide +kernel
theorem dX5_grade_17 : decode cX5_grade 17 = .ok (.ifCond .eq 10, 3) := by decide +kernel
theorem dX5_grade_20 : decode cX5_grade 20 = .ok (.aload_n 0, 1) := by decide +kernel
theorem dX5_grade_21 : decode cX5_grade 21 = .ok (.getfield 17, 3) := by decide +kernel
theorem dX5_grade_24 : decode cX5_grade 24 = .ok (.goto 4, 3) := by decide +kernel
theorem dX5_grade_27 : decode cX5_grade 27 = .ok (.iconst 0, 1) := by decide +kernel
theorem dX5_grade_28 : decode cX5_grade 28 = .ok (.ireturn, 1) := by decide +kernel
theorem dX5_changing_0 : decode cX5_changing 0 = .ok (.aload_n 0, 1) := by decide +kernel
theorem dX5_changing_1 : decode cX5_changing 1 = .ok (.iconst 0, 1) := by decide +kernel
theorem dX5_changing_2 : decode cX5_changing 2 = .ok (.putfield 58, 3) := by decide +kernel
theorem dX5_changing_5 : decode cX5_changing 5 = .ok (.aload_n 0, 1) := by decide +kernel
theorem dX5_changing_6 : decode cX5_changing 6 = .ok (.getfield 81, 3) := by decide +kernel
theorem dX5_changing_9 : decode cX5_changing 9 = .ok (.ireturn, 1) := by decide +kernel
theorem dX5_hasOrders_0 : decode cX5_hasOrders 0 = .ok (.iconst 0, 1) := by decide +kernel
theorem dX5_hasOrders_1 : decode cX5_hasOrders 1 = .ok (.istore_n 2, 1) := by decide +kernel
theorem dX5_hasOrders_2 : decode cX5_hasOrders 2 = .ok (.iconst 0, 1) := by decide +kernel
theorem dX5_hasOrders_3 : decode cX5_hasOrders 3 = .ok (.istore_n 3, 1) := by decide +kernel
theorem dX5_hasOrders_4 : decode cX5_hasOrders 4 = .ok (.iload_n 3, 1) := by decide +kernel
theorem dX5_hasOrders_5 : decode cX5_hasOrders 5 = .ok (.aload_n 0, 1) := by decide +kernel
theorem dX5_hasOrders_6 : decode cX5_hasOrders 6 = .ok (.getfield 68, 3) := by decide +kernel
theorem dX5_hasOrders_9 : decode cX5_hasOrders 9 = .ok (.if_icmp .ge 38, 3) := by decide +kernel
theorem dX5_hasOrders_12 : decode cX5_hasOrders 12 = .ok (.iload_n 2, 1) := by decide +kernel
theorem dX5_hasOrders_13 : decode cX5_hasOrders 13 = .ok (.ifCond .ne 22, 3) := by decide +kernel
theorem dX5_hasOrders_16 : decode cX5_hasOrders 16 = .ok (.aload_n 0, 1) := by decide +kernel
theorem dX5_hasOrders_17 : decode cX5_hasOrders 17 = .ok (.getfield 24, 3) := by decide +kernel
theorem dX5_hasOrders_20 : decode cX5_hasOrders 20 = .ok (.iload_n 3, 1) := by decide +kernel
theorem dX5_hasOrders_21 : decode cX5_hasOrders 21 = .ok (.iaload, 1) := by decide +kernel
theorem dX5_hasOrders_22 : decode cX5_hasOrders 22 = .ok (.iload_n 1, 1) := by decide +kernel
theorem dX5_hasOrders_23 : decode cX5_hasOrders 23 = .ok (.if_icmp .ne 16, 3) := by decide +kernel
theorem dX5_hasOrders_26 : decode cX5_hasOrders 26 = .ok (.aload_n 0, 1) := by decide +kernel
theorem dX5_hasOrders_27 : decode cX5_hasOrders 27 = .ok (.getfield 30, 3) := by decide +kernel
theorem dX5_hasOrders_30 : decode cX5_hasOrders 30 = .ok (.iload_n 3, 1) := by decide +kernel
theorem dX5_hasOrders_31 : decode cX5_hasOrders 31 = .ok (.iaload, 1) := by decide +kernel
theorem dX5_hasOrders_32 : decode cX5_hasOrders 32 = .ok (.ifCond .le 7, 3) := by decide +kernel
theorem dX5_hasOrders_35 : decode cX5_hasOrders 35 = .ok (.iconst 1, 1) := by decide +kernel
theorem dX5_hasOrders_36 : decode cX5_hasOrders 36 = .ok (.goto 4, 3) := by decide +kernel
theorem dX5_hasOrders_39 : decode cX5_hasOrders 39 = .ok (.iconst 0, 1) := by decide +kernel
theorem dX5_hasOrders_40 : decode cX5_hasOrders 40 = .ok (.istore_n 2, 1) := by decide +kernel
theorem dX5_hasOrders_41 : decode cX5_hasOrders 41 = .ok (.iinc 3 1, 3) := by decide +kernel
theorem dX5_hasOrders_44 : decode cX5_hasOrders 44 = .ok (.goto (-40), 3) := by decide +kernel
theorem dX5_hasOrders_47 : decode cX5_hasOrders 47 = .ok (.iload_n 2, 1) := by decide +kernel
theorem dX5_hasOrders_48 : decode cX5_hasOrders 48 = .ok (.ireturn, 1) := by decide +kernel
set_option maxRecDepth 20000 in
theorem ggX5_nextFrom_X5_hasOrders : GoodIn wsX5_nextFrom wsX5_hasOrders := goodIn_ca (goodIn_r _ [7, 8, 9, 10, 11, 12, 13, 14, 15, 16, 17, 18, 19, 20, 21, 22, 23, 24, 25, 26, 27, 28, 29, 30, 31, 32, 33, 34, 35, 36, 37, 38, 39] (by decide +kernel) (by decide +kernel)) (goodIn_sub (fun _ h => List.mem_cons_of_mem _ (List.mem_append_right _ h)) (by decide +kernel))
set_option maxRecDepth 20000 in
theorem gX5_nextFrom_X5_hasOrders : GoodIn wsX5_nextFrom (wsV RX5 84 RX5 yX5_hasOrders wsX5_hasOrders) := goodIn_app (goodIn_of _ (by decide +kernel)) ggX5_nextFrom_X5_hasOrders
theorem dX5_nextFrom_0 : decode cX5_nextFrom 0 = .ok (.iconst (-1), 1) := by decide +kernel
theorem dX5_nextFrom_1 : decode cX5_nextFrom 1 = .ok (.istore_n 3, 1) := by decide +kernel
theorem dX5_nextFrom_2 : decode cX5_nextFrom 2 = .ok (.iconst 0, 1) := by decide +kernel
theorem dX5_nextFrom_3 : decode cX5_nextFrom 3 = .ok (.istore 4, 2) := by decide +kernel
theorem dX5_nextFrom_5 : decode cX5_nextFrom 5 = .ok (.iload 4, 2) := by decide +kernel
theorem dX5_nextFrom_7 : decode cX5_nextFrom 7 = .ok (.aload_n 0, 1) := by decide +kernel
theorem dX5_nextFrom_8 : decode cX5_nextFrom 8 = .ok (.getfield 61, 3) := by decide +kernel
theorem dX5_nextFrom_11 : decode cX5_nextFrom 11 = .ok (.if_icmp .ge 122, 3) := by decide +kernel
theorem dX5_nextFrom_14 : decode cX5_nextFrom 14 = .ok (.aload_n 0, 1) := by decide +kernel
theorem dX5_nextFrom_15 : decode cX5_nextFrom 15 = .ok (.iload 4, 2) := by decide +kernel
theorem dX5_nextFrom_17 : decode cX5_nextFrom 17 = .ok (.invokevirtual 84, 3) := by decide +kernel
theorem dX5_nextFrom_20 : decode cX5_nextFrom 20 = .ok (.ifCond .eq 36, 3) := by decide +kernel
theorem dX5_nextFrom_23 : decode cX5_nextFrom 23 = .ok (.iload_n 2, 1) := by decide +kernel
theorem dX5_nextFrom_24 : decode cX5_nextFrom 24 = .ok (.ifCond .eq 17, 3) := by decide +kernel
theorem dX5_nextFrom_27 : decode cX5_nextFrom 27 = .ok (.aload_n 0, 1) := by decide +kernel
theorem dX5_nextFrom_28 : decode cX5_nextFrom 28 = .ok (.getfield 9, 3) := by decide +kernel
theorem dX5_nextFrom_31 : decode cX5_nextFrom 31 = .ok (.iload 4, 2) := by decide +kernel
theorem dX5_nextFrom_33 : decode cX5_nextFrom 33 = .ok (.iaload, 1) := by decide +kernel
theorem dX5_nextFrom_34 : decode cX5_nextFrom 34 = .ok (.iload_n 1, 1) := by decide +kernel
theorem dX5_nextFrom_35 : decode cX5_nextFrom 35 = .ok (.if_icmp .le 21, 3) := by decide +kernel
theorem dX5_nextFrom_38 : decode cX5_nextFrom 38 = .ok (.goto 14, 3) := by decide +kernel
theorem dX5_nextFrom_41 : decode cX5_nextFrom 41 = .ok (.aload_n 0, 1) := by decide +kernel
theorem dX5_nextFrom_42 : decode cX5_nextFrom 42 = .ok (.getfield 9, 3) := by decide +kernel
theorem dX5_nextFrom_45 : decode cX5_nextFrom 45 = .ok (.iload 4, 2) := by decide +kernel
theorem dX5_nextFrom_47 : decode cX5_nextFrom 47 = .ok (.iaload, 1) := by decide +kernel
theorem dX5_nextFrom_48 : decode cX5_nextFrom 48 = .ok (.iload_n 1, 1) := by decide +kernel
theorem dX5_nextFrom_49 : decode cX5_nextFrom 49 = .ok (.if_icmp .ge 7, 3) := by decide +kernel
theorem dX5_nextFrom_52 : decode cX5_nextFrom 52 = .ok (.iconst 1, 1) := by decide +kernel
theorem dX5_nextFrom_53 : decode cX5_nextFrom 53 = .ok (.goto 4, 3) := by decide +kernel
theorem dX5_nextFrom_56 : decode cX5_nextFrom 56 = .ok (.iconst 0, 1) := by decide +kernel
theorem dX5_nextFrom_57 : decode cX5_nextFrom 57 = .ok (.istore 5, 2) := by decide +kernel
theorem dX5_nextFrom_59 : decode cX5_nextFrom 59 = .ok (.iload_n 3, 1) := by decide +kernel
theorem dX5_nextFrom_60 : decode cX5_nextFrom 60 = .ok (.iconst (-1), 1) := by decide +kernel
theorem dX5_nextFrom_61 : decode cX5_nextFrom 61 = .ok (.if_icmp .eq 42, 3) := by decide +kernel
theorem dX5_nextFrom_64 : decode cX5_nextFrom 64 = .ok (.iload_n 2, 1) := by decide +kernel
theorem dX5_nextFrom_65 : decode cX5_nextFrom 65 = .ok (.ifCond .eq 22, 3) := by decide +kernel
theorem dX5_nextFrom_68 : decode cX5_nextFrom 68 = .ok (.aload_n 0, 1) := by decide +kernel
theorem dX5_nextFrom_69 : decode cX5_nextFrom 69 = .ok (.getfield 9, 3) := by decide +kernel
theorem dX5_nextFrom_72 : decode cX5_nextFrom 72 = .ok (.iload 4, 2) := by decide +kernel
theorem dX5_nextFrom_74 : decode cX5_nextFrom 74 = .ok (.iaload, 1) := by decide +kernel
theorem dX5_nextFrom_75 : decode cX5_nextFrom 75 = .ok (.aload_n 0, 1) := by decide +kernel
theorem dX5_nextFrom_76 : decode cX5_nextFrom 76 = .ok (.getfield 9, 3) := by decide +kernel
theorem dX5_nextFrom_79 : decode cX5_nextFrom 79 = .ok (.iload_n 3, 1) := by decide +kernel
theorem dX5_nextFrom_80 : decode cX5_nextFrom 80 = .ok (.iaload, 1) := by decide +kernel
theorem dX5_nextFrom_81 : decode cX5_nextFrom 81 = .ok (.if_icmp .ge 26, 3) := by decide +kernel
theorem dX5_nextFrom_84 : decode cX5_nextFrom 84 = .ok (.goto 19, 3) := by decide +kernel
theorem dX5_nextFrom_87 : decode cX5_nextFrom 87 = .ok (.aload_n 0, 1) := by decide +kernel
theorem dX5_nextFrom_88 : decode cX5_nextFrom 88 = .ok (.getfield 9, 3) := by decide +kernel
theorem dX5_nextFrom_91 : decode cX5_nextFrom 91 = .ok (.iload 4, 2) := by decide +kernel
theorem dX5_nextFrom_93 : decode cX5_nextFrom 93 = .ok (.iaload, 1) := by decide +kernel
theorem dX5_nextFrom_94 : decode cX5_nextFrom 94 = .ok (.aload_n 0, 1) := by decide +kernel
theorem dX5_nextFrom_95 : decode cX5_nextFrom 95 = .ok (.getfield 9, 3) := by decide +kernel
theorem dX5_nextFrom_98 : decode cX5_nextFrom 98 = .ok (.iload_n 3, 1) := by decide +kernel
theorem dX5_nextFrom_99 : decode cX5_nextFrom 99 = .ok (.iaload, 1) := by decide +kernel
theorem dX5_nextFrom_100 : decode cX5_nextFrom 100 = .ok (.if_icmp .le 7, 3) := by decide +kernel
theorem dX5_nextFrom_103 : decode cX5_nextFrom 103 = .ok (.iconst 1, 1) := by decide +kernel
theorem dX5_nextFrom_104 : decode cX5_nextFrom 104 = .ok (.goto 4, 3) := by decide +kernel
theorem dX5_nextFrom_107 : decode cX5_nextFrom 107 = .ok (.iconst 0, 1) := by decide +kernel
theorem dX5_nextFrom_108 : decode cX5_nextFrom 108 = .ok (.istore 6, 2) := by decide +kernel
theorem dX5_nextFrom_110 : decode cX5_nextFrom 110 = .ok (.iload 5, 2) := by decide +kernel
theorem dX5_nextFrom_112 : decode cX5_nextFrom 112 = .ok (.ifCond .eq 13, 3) := by decide +kernel
theorem dX5_nextFrom_115 : decode cX5_nextFrom 115 = .ok (.iload 6, 2) := by decide +kernel
theorem dX5_nextFrom_117 : decode cX5_nextFrom 117 = .ok (.ifCond .eq 8, 3) := by decide +kernel
theorem dX5_nextFrom_120 : decode cX5_nextFrom 120 = .ok (.iload 4, 2) := by decide +kernel
theorem dX5_nextFrom_122 : decode cX5_nextFrom 122 = .ok (.goto 4, 3) := by decide +kernel
theorem dX5_nextFrom_125 : decode cX5_nextFrom 125 = .ok (.iload_n 3, 1) := by decide +kernel
theorem dX5_nextFrom_126 : decode cX5_nextFrom 126 = .ok (.istore_n 3, 1) := by decide +kernel
theorem dX5_nextFrom_127 : decode cX5_nextFrom 127 = .ok (.iinc 4 1, 3) := by decide +kernel
theorem dX5_nextFrom_130 : decode cX5_nextFrom 130 = .ok (.goto (-125), 3) := by decide +kernel
theorem dX5_nextFrom_133 : decode cX5_nextFrom 133 = .ok (.iload_n 3, 1) := by decide +kernel
theorem dX5_nextFrom_134 : decode cX5_nextFrom 134 = .ok (.ireturn, 1) := by decide +kernel
set_option maxRecDepth 20000 in
theorem ggX5_next_X5_nextFrom : GoodIn wsX5_next wsX5_nextFrom := goodIn_ca (goodIn_r _ [8, 9, 2, 10, 11, 12, 7, 13, 14, 15, 16, 22, 23, 24, 25, 26, 27, 28, 29, 30, 31, 32, 33, 34, 35, 36, 37, 38, 39, 40, 41, 42, 43, 44, 45, 46, 47, 48, 49, 50] (by decide +kernel) (by decide +kernel)) (goodIn_sub (fun _ h => List.mem_cons_of_mem _ (List.mem_append_right _ h)) (by decide +kernel))
set_option maxRecDepth 20000 in
theorem gX5_next_X5_nextFrom : GoodIn wsX5_next (wsV RX5 87 RX5 yX5_nextFrom wsX5_nextFrom) := goodIn_app (goodIn_of _ (by decide +kernel)) ggX5_next_X5_nextFrom
set_option maxRecDepth 20000 in
theorem ggX5_next_X5_goesOn : GoodIn wsX5_next wsX5_goesOn := goodIn_r _ [20, 21, 22, 23, 24, 25, 26, 27, 28, 29, 30, 31, 32, 33, 34, 35, 36, 37, 38, 39, 40, 41, 42, 43, 44, 45, 46, 47, 48, 49, 50] (by decide +kernel) (by decide +kernel)
set_option maxRecDepth 20000 in
theorem gX5_next_X5_goesOn : GoodIn wsX5_next (wsV RX5 75 RX5 yX5_goesOn wsX5_goesOn) := goodIn_app (goodIn_of _ (by decide +kernel)) ggX5_next_X5_goesOn
theorem dX5_next_0 : decode cX5_next 0 = .ok (.aload_n 0, 1) := by decide +kernel
theorem dX5_next_1 : decode cX5_next 1 = .ok (.aload_n 0, 1) := by decide +kernel
theorem dX5_next_2 : decode cX5_next 2 = .ok (.getfield 17, 3) := by decide +kernel
theorem dX5_next_5 : decode cX5_next 5 = .ok (.iconst (-1), 1) := by decide +kernel
theorem dX5_next_6 : decode cX5_next 6 = .ok (.if_icmp .ne 7, 3) := by decide +kernel
theorem dX5_next_9 : decode cX5_next 9 = .ok (.iconst 0, 1) := by decide +kernel
theorem dX5_next_10 : decode cX5_next 10 = .ok (.goto 12, 3) := by decide +kernel
theorem dX5_next_13 : decode cX5_next 13 = .ok (.aload_n 0, 1) := by decide +kernel
theorem dX5_next_14 : decode cX5_next 14 = .ok (.getfield 9, 3) := by decide +kernel
theorem dX5_next_17 : decode cX5_next 17 = .ok (.aload_n 0, 1) := by decide +kernel
theorem dX5_next_18 : decode cX5_next 18 = .ok (.getfield 17, 3) := by decide +kernel
theorem dX5_next_21 : decode cX5_next 21 = .ok (.iaload, 1) := by decide +kernel
theorem dX5_next_22 : decode cX5_next 22 = .ok (.aload_n 0, 1) := by decide +kernel
theorem dX5_next_23 : decode cX5_next 23 = .ok (.getfield 20, 3) := by decide +kernel
theorem dX5_next_26 : decode cX5_next 26 = .ok (.invokevirtual 87, 3) := by decide +kernel
theorem dX5_next_29 : decode cX5_next 29 = .ok (.istore_n 1, 1) := by decide +kernel
theorem dX5_next_30 : decode cX5_next 30 = .ok (.iload_n 1, 1) := by decide +kernel
theorem dX5_next_31 : decode cX5_next 31 = .ok (.iconst (-1), 1) := by decide +kernel
theorem dX5_next_32 : decode cX5_next 32 = .ok (.if_icmp .ne 39, 3) := by decide +kernel
theorem dX5_next_35 : decode cX5_next 35 = .ok (.aload_n 0, 1) := by decide +kernel
theorem dX5_next_36 : decode cX5_next 36 = .ok (.getfield 17, 3) := by decide +kernel
theorem dX5_next_39 : decode cX5_next 39 = .ok (.iconst (-1), 1) := by decide +kernel
theorem dX5_next_40 : decode cX5_next 40 = .ok (.if_icmp .eq 31, 3) := by decide +kernel
theorem dX5_next_43 : decode cX5_next 43 = .ok (.aload_n 0, 1) := by decide +kernel
theorem dX5_next_44 : decode cX5_next 44 = .ok (.aload_n 0, 1) := by decide +kernel
theorem dX5_next_45 : decode cX5_next 45 = .ok (.getfield 9, 3) := by decide +kernel
theorem dX5_next_48 : decode cX5_next 48 = .ok (.aload_n 0, 1) := by decide +kernel
theorem dX5_next_49 : decode cX5_next 49 = .ok (.getfield 17, 3) := by decide +kernel
theorem dX5_next_52 : decode cX5_next 52 = .ok (.iaload, 1) := by decide +kernel
theorem dX5_next_53 : decode cX5_next 53 = .ok (.aload_n 0, 1) := by decide +kernel
theorem dX5_next_54 : decode cX5_next 54 = .ok (.getfield 20, 3) := by decide +kernel
theorem dX5_next_57 : decode cX5_next 57 = .ok (.ifCond .ne 7, 3) := by decide +kernel
theorem dX5_next_60 : decode cX5_next 60 = .ok (.iconst 1, 1) := by decide +kernel
theorem dX5_next_61 : decode cX5_next 61 = .ok (.goto 4, 3) := by decide +kernel
theorem dX5_next_64 : decode cX5_next 64 = .ok (.iconst 0, 1) := by decide +kernel
theorem dX5_next_65 : decode cX5_next 65 = .ok (.invokevirtual 87, 3) := by decide +kernel
theorem dX5_next_68 : decode cX5_next 68 = .ok (.goto 4, 3) := by decide +kernel
theorem dX5_next_71 : decode cX5_next 71 = .ok (.iload_n 1, 1) := by decide +kernel
theorem dX5_next_72 : decode cX5_next 72 = .ok (.istore_n 1, 1) := by decide +kernel
theorem dX5_next_73 : decode cX5_next 73 = .ok (.aload_n 0, 1) := by decide +kernel
theorem dX5_next_74 : decode cX5_next 74 = .ok (.iload_n 1, 1) := by decide +kernel
theorem dX5_next_75 : decode cX5_next 75 = .ok (.iconst (-1), 1) := by decide +kernel
theorem dX5_next_76 : decode cX5_next 76 = .ok (.if_icmp .ne 7, 3) := by decide +kernel
theorem dX5_next_79 : decode cX5_next 79 = .ok (.iconst 1, 1) := by decide +kernel
theorem dX5_next_80 : decode cX5_next 80 = .ok (.goto 4, 3) := by decide +kernel
theorem dX5_next_83 : decode cX5_next 83 = .ok (.iconst 0, 1) := by decide +kernel
theorem dX5_next_84 : decode cX5_next 84 = .ok (.invokevirtual 75, 3) := by decide +kernel
theorem dX5_next_87 : decode cX5_next 87 = .ok (.ifCond .eq 7, 3) := by decide +kernel
theorem dX5_next_90 : decode cX5_next 90 = .ok (.iload_n 1, 1) := by decide +kernel
theorem dX5_next_91 : decode cX5_next 91 = .ok (.goto 4, 3) := by decide +kernel
theorem dX5_next_94 : decode cX5_next 94 = .ok (.iconst 0, 1) := by decide +kernel
theorem dX5_next_95 : decode cX5_next 95 = .ok (.ireturn, 1) := by decide +kernel
theorem dX5_massOf_0 : decode cX5_massOf 0 = .ok (.aload_n 0, 1) := by decide +kernel
theorem dX5_massOf_1 : decode cX5_massOf 1 = .ok (.getfield 9, 3) := by decide +kernel
theorem dX5_massOf_4 : decode cX5_massOf 4 = .ok (.iload_n 1, 1) := by decide +kernel
theorem dX5_massOf_5 : decode cX5_massOf 5 = .ok (.iaload, 1) := by decide +kernel
theorem dX5_massOf_6 : decode cX5_massOf 6 = .ok (.aload_n 0, 1) := by decide +kernel
theorem dX5_massOf_7 : decode cX5_massOf 7 = .ok (.getfield 13, 3) := by decide +kernel
theorem dX5_massOf_10 : decode cX5_massOf 10 = .ok (.imul, 1) := by decide +kernel
theorem dX5_massOf_11 : decode cX5_massOf 11 = .ok (.bipush 10, 2) := by decide +kernel
theorem dX5_massOf_13 : decode cX5_massOf 13 = .ok (.idiv, 1) := by decide +kernel
theorem dX5_massOf_14 : decode cX5_massOf 14 = .ok (.ireturn, 1) := by decide +kernel
set_option maxRecDepth 20000 in
theorem ggX5_mass_X5_isGrade : GoodIn wsX5_mass wsX5_isGrade := goodIn_r _ [5, 6, 7, 8, 4, 9, 21, 22, 23, 24, 25, 26, 27, 28, 29, 30, 31, 32, 33, 34, 35, 36, 37, 38, 39, 40, 41, 42, 43, 44, 45, 46, 47, 48, 49] (by decide +kernel) (by decide +kernel)
set_option maxRecDepth 20000 in
theorem gX5_mass_X5_isGrade : GoodIn wsX5_mass (wsV RX5 78 RX5 yX5_isGrade wsX5_isGrade) := goodIn_app (goodIn_of _ (by decide +kernel)) ggX5_mass_X5_isGrade
set_option maxRecDepth 20000 in
theorem ggX5_mass_X5_goesOn : GoodIn wsX5_mass wsX5_goesOn := goodIn_r _ [13, 14, 21, 22, 23, 24, 25, 26, 27, 28, 29, 30, 31, 32, 33, 34, 35, 36, 37, 38, 39, 40, 41, 42, 43, 44, 45, 46, 47, 48, 49] (by decide +kernel) (by decide +kernel)
set_option maxRecDepth 20000 in
theorem gX5_mass_X5_goesOn : GoodIn wsX5_mass (wsV RX5 75 RX5 yX5_goesOn wsX5_goesOn) := goodIn_app (goodIn_of _ (by decide +kernel)) ggX5_mass_X5_goesOn
set_option maxRecDepth 20000 in
theorem ggX5_mass_X5_massOf : GoodIn wsX5_mass wsX5_massOf := goodIn_ca (goodIn_r _ [18, 19, 20, 21, 22, 23, 24, 25, 26, 27, 28, 29, 30, 31, 32, 33, 34, 35, 36, 37, 38, 39, 40, 41, 42, 43, 44, 45, 46, 47, 48, 49] (by decide +kernel) (by decide +kernel)) (goodIn_sub (fun _ h => List.mem_cons_of_mem _ (List.mem_append_right _ h)) (by decide +kernel))
set_option maxRecDepth 20000 in
theorem gX5_mass_X5_massOf : GoodIn wsX5_mass (wsV RX5 91 RX5 yX5_massOf wsX5_massOf) := goodIn_app (goodIn_of _ (by decide +kernel)) ggX5_mass_X5_massOf
theorem dX5_mass_0 : decode cX5_mass 0 = .ok (.aload_n 0, 1) := by decide +kernel
theorem dX5_mass_1 : decode cX5_mass 1 = .ok (.aload_n 0, 1) := by decide +kernel
theorem dX5_mass_2 : decode cX5_mass 2 = .ok (.iload_n 1, 1) := by decide +kernel
theorem dX5_mass_3 : decode cX5_mass 3 = .ok (.invokevirtual 78, 3) := by decide +kernel
theorem dX5_mass_6 : decode cX5_mass 6 = .ok (.ifCond .eq 7, 3) := by decide +kernel
theorem dX5_mass_9 : decode cX5_mass 9 = .ok (.iconst 0, 1) := by decide +kernel
theorem dX5_mass_10 : decode cX5_mass 10 = .ok (.goto 4, 3) := by decide +kernel
theorem dX5_mass_13 : decode cX5_mass 13 = .ok (.iconst 1, 1) := by decide +kernel
theorem dX5_mass_14 : decode cX5_mass 14 = .ok (.invokevirtual 75, 3) := by decide +kernel
theorem dX5_mass_17 : decode cX5_mass 17 = .ok (.ifCond .eq 11, 3) := by decide +kernel
theorem dX5_mass_20 : decode cX5_mass 20 = .ok (.aload_n 0, 1) := by decide +kernel
theorem dX5_mass_21 : decode cX5_mass 21 = .ok (.iload_n 1, 1) := by decide +kernel
theorem dX5_mass_22 : decode cX5_mass 22 = .ok (.invokevirtual 91, 3) := by decide +kernel
theorem dX5_mass_25 : decode cX5_mass 25 = .ok (.goto 4, 3) := by decide +kernel
theorem dX5_mass_28 : decode cX5_mass 28 = .ok (.iconst 0, 1) := by decide +kernel
theorem dX5_mass_29 : decode cX5_mass 29 = .ok (.ireturn, 1) := by decide +kernel
set_option maxRecDepth 20000 in
theorem ggX5_order_X5_isGrade : GoodIn wsX5_order wsX5_isGrade := goodIn_r _ [10, 11, 12, 13, 9, 14, 20, 21, 22, 23, 24, 25, 26, 27, 28, 29, 30, 31, 32, 33, 34, 35, 36, 37, 38, 39, 40, 41, 42, 43, 44, 45, 46, 47, 48] (by decide +kernel) (by decide +kernel)
set_option maxRecDepth 20000 in
theorem gX5_order_X5_isGrade : GoodIn wsX5_order (wsV RX5 78 RX5 yX5_isGrade wsX5_isGrade) := goodIn_app (goodIn_of _ (by decide +kernel)) ggX5_order_X5_isGrade
set_option maxRecDepth 20000 in
theorem ggX5_order_X5_in : GoodIn wsX5_order wsX5_in := goodIn_r _ [14] (by decide +kernel) (by decide +kernel)
set_option maxRecDepth 20000 in
theorem gX5_order_X5_in : GoodIn wsX5_order (va_wsS RX5 64 yX5_in wsX5_in) := goodIn_app (goodIn_of _ (by decide +kernel)) ggX5_order_X5_in
set_option maxRecDepth 20000 in
theorem ggX5_order_X5_goesOn : GoodIn wsX5_order wsX5_goesOn := goodIn_r _ [18, 19, 20, 21, 22, 23, 24, 25, 26, 27, 28, 29, 30, 31, 32, 33, 34, 35, 36, 37, 38, 39, 40, 41, 42, 43, 44, 45, 46, 47, 48] (by decide +kernel) (by decide +kernel)
set_option maxRecDepth 20000 in
theorem gX5_order_X5_goesOn : GoodIn wsX5_order (wsV RX5 75 RX5 yX5_goesOn wsX5_goesOn) := goodIn_app (goodIn_of _ (by decide +kernel)) ggX5_order_X5_goesOn
theorem dX5_order_0 : decode cX5_order 0 = .ok (.aload_n 0, 1) := by decide +kernel
theorem dX5_order_1 : decode cX5_order 1 = .ok (.iload_n 1, 1) := by decide +kernel
theorem dX5_order_2 : decode cX5_order 2 = .ok (.invokevirtual 78, 3) := by decide +kernel
theorem dX5_order_5 : decode cX5_order 5 = .ok (.ifCond .ne 7, 3) := by decide +kernel
theorem dX5_order_8 : decode cX5_order 8 = .ok (.iconst 1, 1) := by decide +kernel
theorem dX5_order_9 : decode cX5_order 9 = .ok (.goto 55, 3) := by decide +kernel
theorem dX5_order_12 : decode cX5_order 12 = .ok (.iload_n 2, 1) := by decide +kernel
theorem dX5_order_13 : decode cX5_order 13 = .ok (.bipush 20, 2) := by decide +kernel
theorem dX5_order_15 : decode cX5_order 15 = .ok (.sipush 400, 3) := by decide +kernel
theorem dX5_order_18 : decode cX5_order 18 = .ok (.invokestatic 64, 3) := by decide +kernel
theorem dX5_order_21 : decode cX5_order 21 = .ok (.ifCond .eq 13, 3) := by decide +kernel
theorem dX5_order_24 : decode cX5_order 24 = .ok (.iload_n 3, 1) := by decide +kernel
theorem dX5_order_25 : decode cX5_order 25 = .ok (.iconst 1, 1) := by decide +kernel
theorem dX5_order_26 : decode cX5_order 26 = .ok (.bipush 50, 2) := by decide +kernel
theorem dX5_order_28 : decode cX5_order 28 = .ok (.invokestatic 64, 3) := by decide +kernel
theorem dX5_order_31 : decode cX5_order 31 = .ok (.ifCond .ne 7, 3) := by decide +kernel
theorem dX5_order_34 : decode cX5_order 34 = .ok (.iconst 2, 1) := by decide +kernel
theorem dX5_order_35 : decode cX5_order 35 = .ok (.goto 29, 3) := by decide +kernel
theorem dX5_order_38 : decode cX5_order 38 = .ok (.iload_n 2, 1) := by decide +kernel
theorem dX5_order_39 : decode cX5_order 39 = .ok (.aload_n 0, 1) := by decide +kernel
theorem dX5_order_40 : decode cX5_order 40 = .ok (.getfield 13, 3) := by decide +kernel
theorem dX5_order_43 : decode cX5_order 43 = .ok (.if_icmp .le 7, 3) := by decide +kernel
theorem dX5_order_46 : decode cX5_order 46 = .ok (.iconst 3, 1) := by decide +kernel
theorem dX5_order_47 : decode cX5_order 47 = .ok (.goto 17, 3) := by decide +kernel
theorem dX5_order_50 : decode cX5_order 50 = .ok (.aload_n 0, 1) := by decide +kernel
theorem dX5_order_51 : decode cX5_order 51 = .ok (.getfield 68, 3) := by decide +kernel
theorem dX5_order_54 : decode cX5_order 54 = .ok (.bipush 10, 2) := by decide +kernel
theorem dX5_order_56 : decode cX5_order 56 = .ok (.if_icmp .ne 7, 3) := by decide +kernel
theorem dX5_order_59 : decode cX5_order 59 = .ok (.iconst 4, 1) := by decide +kernel
theorem dX5_order_60 : decode cX5_order 60 = .ok (.goto 4, 3) := by decide +kernel
theorem dX5_order_63 : decode cX5_order 63 = .ok (.iconst 0, 1) := by decide +kernel
theorem dX5_order_64 : decode cX5_order 64 = .ok (.istore 4, 2) := by decide +kernel
end
section
theorem dX5_order_66 : decode cX5_order 66 = .ok (.aload_n 0, 1) := by decide +kernel
theorem dX5_order_67 : decode cX5_order 67 = .ok (.iload 4, 2) := by decide +kernel
theorem dX5_order_69 : decode cX5_order 69 = .ok (.invokevirtual 75, 3) := by decide +kernel
theorem dX5_order_72 : decode cX5_order 72 = .ok (.ifCond .ne 5, 3) := by decide +kernel
theorem dX5_order_75 : decode cX5_order 75 = .ok (.iconst 0, 1) := by decide +kernel
theorem dX5_order_76 : decode cX5_order 76 = .ok (.ireturn, 1) := by decide +kernel
theorem dX5_order_77 : decode cX5_order 77 = .ok (.aload_n 0, 1) := by decide +kernel
theorem dX5_order_78 : decode cX5_order 78 = .ok (.getfield 24, 3) := by decide +kernel
theorem dX5_order_81 : decode cX5_order 81 = .ok (.aload_n 0, 1) := by decide +kernel
theorem dX5_order_82 : decode cX5_order 82 = .ok (.getfield 68, 3) := by decide +kernel
theorem dX5_order_85 : decode cX5_order 85 = .ok (.iload_n 1, 1) := by decide +kernel
theorem dX5_order_86 : decode cX5_order 86 = .ok (.iastore, 1) := by decide +kernel
theorem dX5_order_87 : decode cX5_order 87 = .ok (.aload_n 0, 1) := by decide +kernel
theorem dX5_order_88 : decode cX5_order 88 = .ok (.getfield 27, 3) := by decide +kernel
theorem dX5_order_91 : decode cX5_order 91 = .ok (.aload_n 0, 1) := by decide +kernel
theorem dX5_order_92 : decode cX5_order 92 = .ok (.getfield 68, 3) := by decide +kernel
theorem dX5_order_95 : decode cX5_order 95 = .ok (.iload_n 2, 1) := by decide +kernel
theorem dX5_order_96 : decode cX5_order 96 = .ok (.iastore, 1) := by decide +kernel
theorem dX5_order_97 : decode cX5_order 97 = .ok (.aload_n 0, 1) := by decide +kernel
theorem dX5_order_98 : decode cX5_order 98 = .ok (.getfield 30, 3) := by decide +kernel
theorem dX5_order_101 : decode cX5_order 101 = .ok (.aload_n 0, 1) := by decide +kernel
theorem dX5_order_102 : decode cX5_order 102 = .ok (.getfield 68, 3) := by decide +kernel
theorem dX5_order_105 : decode cX5_order 105 = .ok (.iload_n 3, 1) := by decide +kernel
theorem dX5_order_106 : decode cX5_order 106 = .ok (.iastore, 1) := by decide +kernel
theorem dX5_order_107 : decode cX5_order 107 = .ok (.aload_n 0, 1) := by decide +kernel
theorem dX5_order_108 : decode cX5_order 108 = .ok (.dup, 1) := by decide +kernel
theorem dX5_order_109 : decode cX5_order 109 = .ok (.getfield 68, 3) := by decide +kernel
theorem dX5_order_112 : decode cX5_order 112 = .ok (.iconst 1, 1) := by decide +kernel
theorem dX5_order_113 : decode cX5_order 113 = .ok (.iadd, 1) := by decide +kernel
theorem dX5_order_114 : decode cX5_order 114 = .ok (.putfield 68, 3) := by decide +kernel
theorem dX5_order_117 : decode cX5_order 117 = .ok (.aload_n 0, 1) := by decide +kernel
theorem dX5_order_118 : decode cX5_order 118 = .ok (.getfield 68, 3) := by decide +kernel
theorem dX5_order_121 : decode cX5_order 121 = .ok (.iconst 1, 1) := by decide +kernel
theorem dX5_order_122 : decode cX5_order 122 = .ok (.isub, 1) := by decide +kernel
theorem dX5_order_123 : decode cX5_order 123 = .ok (.ireturn, 1) := by decide +kernel
set_option maxRecDepth 20000 in
theorem ggX5_cancel_X5_isOrder : GoodIn wsX5_cancel wsX5_isOrder := goodIn_r _ [6, 7, 8, 9, 5, 10, 16, 17, 18, 19, 20, 21, 22, 23, 24, 25, 26, 27, 28, 29, 30, 31, 32, 33, 34, 35, 36, 37, 38, 39, 40, 41, 42, 43, 44] (by decide +kernel) (by decide +kernel)
set_option maxRecDepth 20000 in
theorem gX5_cancel_X5_isOrder : GoodIn wsX5_cancel (wsV RX5 95 RX5 yX5_isOrder wsX5_isOrder) := goodIn_app (goodIn_of _ (by decide +kernel)) ggX5_cancel_X5_isOrder
set_option maxRecDepth 20000 in
theorem ggX5_cancel_X5_goesOn : GoodIn wsX5_cancel wsX5_goesOn := goodIn_r _ [14, 15, 16, 17, 18, 19, 20, 21, 22, 23, 24, 25, 26, 27, 28, 29, 30, 31, 32, 33, 34, 35, 36, 37, 38, 39, 40, 41, 42, 43, 44] (by decide +kernel) (by decide +kernel)
set_option maxRecDepth 20000 in
theorem gX5_cancel_X5_goesOn : GoodIn wsX5_cancel (wsV RX5 75 RX5 yX5_goesOn wsX5_goesOn) := goodIn_app (goodIn_of _ (by decide +kernel)) ggX5_cancel_X5_goesOn
theorem dX5_cancel_0 : decode cX5_cancel 0 = .ok (.aload_n 0, 1) := by decide +kernel
theorem dX5_cancel_1 : decode cX5_cancel 1 = .ok (.aload_n 0, 1) := by decide +kernel
theorem dX5_cancel_2 : decode cX5_cancel 2 = .ok (.iload_n 1, 1) := by decide +kernel
theorem dX5_cancel_3 : decode cX5_cancel 3 = .ok (.invokevirtual 95, 3) := by decide +kernel
theorem dX5_cancel_6 : decode cX5_cancel 6 = .ok (.ifCond .ne 7, 3) := by decide +kernel
theorem dX5_cancel_9 : decode cX5_cancel 9 = .ok (.iconst 1, 1) := by decide +kernel
theorem dX5_cancel_10 : decode cX5_cancel 10 = .ok (.goto 17, 3) := by decide +kernel
theorem dX5_cancel_13 : decode cX5_cancel 13 = .ok (.aload_n 0, 1) := by decide +kernel
theorem dX5_cancel_14 : decode cX5_cancel 14 = .ok (.getfield 30, 3) := by decide +kernel
theorem dX5_cancel_17 : decode cX5_cancel 17 = .ok (.iload_n 1, 1) := by decide +kernel
theorem dX5_cancel_18 : decode cX5_cancel 18 = .ok (.iaload, 1) := by decide +kernel
theorem dX5_cancel_19 : decode cX5_cancel 19 = .ok (.ifCond .ne 7, 3) := by decide +kernel
theorem dX5_cancel_22 : decode cX5_cancel 22 = .ok (.iconst 2, 1) := by decide +kernel
theorem dX5_cancel_23 : decode cX5_cancel 23 = .ok (.goto 4, 3) := by decide +kernel
theorem dX5_cancel_26 : decode cX5_cancel 26 = .ok (.iconst 0, 1) := by decide +kernel
theorem dX5_cancel_27 : decode cX5_cancel 27 = .ok (.invokevirtual 75, 3) := by decide +kernel
theorem dX5_cancel_30 : decode cX5_cancel 30 = .ok (.ifCond .ne 5, 3) := by decide +kernel
theorem dX5_cancel_33 : decode cX5_cancel 33 = .ok (.iconst 0, 1) := by decide +kernel
theorem dX5_cancel_34 : decode cX5_cancel 34 = .ok (.ireturn, 1) := by decide +kernel
theorem dX5_cancel_35 : decode cX5_cancel 35 = .ok (.aload_n 0, 1) := by decide +kernel
theorem dX5_cancel_36 : decode cX5_cancel 36 = .ok (.getfield 30, 3) := by decide +kernel
theorem dX5_cancel_39 : decode cX5_cancel 39 = .ok (.iload_n 1, 1) := by decide +kernel
theorem dX5_cancel_40 : decode cX5_cancel 40 = .ok (.iaload, 1) := by decide +kernel
theorem dX5_cancel_41 : decode cX5_cancel 41 = .ok (.istore_n 2, 1) := by decide +kernel
theorem dX5_cancel_42 : decode cX5_cancel 42 = .ok (.aload_n 0, 1) := by decide +kernel
theorem dX5_cancel_43 : decode cX5_cancel 43 = .ok (.getfield 30, 3) := by decide +kernel
theorem dX5_cancel_46 : decode cX5_cancel 46 = .ok (.iload_n 1, 1) := by decide +kernel
theorem dX5_cancel_47 : decode cX5_cancel 47 = .ok (.iconst 0, 1) := by decide +kernel
theorem dX5_cancel_48 : decode cX5_cancel 48 = .ok (.iastore, 1) := by decide +kernel
theorem dX5_cancel_49 : decode cX5_cancel 49 = .ok (.iload_n 2, 1) := by decide +kernel
theorem dX5_cancel_50 : decode cX5_cancel 50 = .ok (.ireturn, 1) := by decide +kernel
set_option maxRecDepth 20000 in
theorem ggX5_cut_X5_isOrder : GoodIn wsX5_cut wsX5_isOrder := goodIn_r _ [6, 7, 8, 9, 5, 10, 16, 17, 18, 19, 20, 21, 22, 23, 24, 25, 26, 27, 28, 29, 30, 31, 32, 33, 34, 35, 36, 37, 38, 39, 40, 41, 42, 43, 44] (by decide +kernel) (by decide +kernel)
set_option maxRecDepth 20000 in
theorem gX5_cut_X5_isOrder : GoodIn wsX5_cut (wsV RX5 95 RX5 yX5_isOrder wsX5_isOrder) := goodIn_app (goodIn_of _ (by decide +kernel)) ggX5_cut_X5_isOrder
set_option maxRecDepth 20000 in
theorem ggX5_cut_X5_goesOn : GoodIn wsX5_cut wsX5_goesOn := goodIn_r _ [14, 15, 16, 17, 18, 19, 20, 21, 22, 23, 24, 25, 26, 27, 28, 29, 30, 31, 32, 33, 34, 35, 36, 37, 38, 39, 40, 41, 42, 43, 44] (by decide +kernel) (by decide +kernel)
set_option maxRecDepth 20000 in
theorem gX5_cut_X5_goesOn : GoodIn wsX5_cut (wsV RX5 75 RX5 yX5_goesOn wsX5_goesOn) := goodIn_app (goodIn_of _ (by decide +kernel)) ggX5_cut_X5_goesOn
theorem dX5_cut_0 : decode cX5_cut 0 = .ok (.aload_n 0, 1) := by decide +kernel
theorem dX5_cut_1 : decode cX5_cut 1 = .ok (.aload_n 0, 1) := by decide +kernel
theorem dX5_cut_2 : decode cX5_cut 2 = .ok (.iload_n 1, 1) := by decide +kernel
theorem dX5_cut_3 : decode cX5_cut 3 = .ok (.invokevirtual 95, 3) := by decide +kernel
theorem dX5_cut_6 : decode cX5_cut 6 = .ok (.ifCond .eq 7, 3) := by decide +kernel
theorem dX5_cut_9 : decode cX5_cut 9 = .ok (.iconst 0, 1) := by decide +kernel
theorem dX5_cut_10 : decode cX5_cut 10 = .ok (.goto 4, 3) := by decide +kernel
theorem dX5_cut_13 : decode cX5_cut 13 = .ok (.iconst 1, 1) := by decide +kernel
theorem dX5_cut_14 : decode cX5_cut 14 = .ok (.invokevirtual 75, 3) := by decide +kernel
theorem dX5_cut_17 : decode cX5_cut 17 = .ok (.ifCond .eq 12, 3) := by decide +kernel
theorem dX5_cut_20 : decode cX5_cut 20 = .ok (.aload_n 0, 1) := by decide +kernel
theorem dX5_cut_21 : decode cX5_cut 21 = .ok (.getfield 33, 3) := by decide +kernel
theorem dX5_cut_24 : decode cX5_cut 24 = .ok (.iload_n 1, 1) := by decide +kernel
theorem dX5_cut_25 : decode cX5_cut 25 = .ok (.iaload, 1) := by decide +kernel
theorem dX5_cut_26 : decode cX5_cut 26 = .ok (.goto 4, 3) := by decide +kernel
theorem dX5_cut_29 : decode cX5_cut 29 = .ok (.iconst 0, 1) := by decide +kernel
theorem dX5_cut_30 : decode cX5_cut 30 = .ok (.ireturn, 1) := by decide +kernel
set_option maxRecDepth 20000 in
theorem ggX5_lacks_X5_isOrder : GoodIn wsX5_lacks wsX5_isOrder := goodIn_r _ [6, 7, 8, 9, 5, 10, 16, 17, 18, 19, 20, 21, 22, 23, 24, 25, 26, 27, 28, 29, 30, 31, 32, 33, 34, 35, 36, 37, 38, 39, 40, 41, 42, 43, 44] (by decide +kernel) (by decide +kernel)
set_option maxRecDepth 20000 in
theorem gX5_lacks_X5_isOrder : GoodIn wsX5_lacks (wsV RX5 95 RX5 yX5_isOrder wsX5_isOrder) := goodIn_app (goodIn_of _ (by decide +kernel)) ggX5_lacks_X5_isOrder
set_option maxRecDepth 20000 in
theorem ggX5_lacks_X5_goesOn : GoodIn wsX5_lacks wsX5_goesOn := goodIn_r _ [14, 15, 16, 17, 18, 19, 20, 21, 22, 23, 24, 25, 26, 27, 28, 29, 30, 31, 32, 33, 34, 35, 36, 37, 38, 39, 40, 41, 42, 43, 44] (by decide +kernel) (by decide +kernel)
set_option maxRecDepth 20000 in
theorem gX5_lacks_X5_goesOn : GoodIn wsX5_lacks (wsV RX5 75 RX5 yX5_goesOn wsX5_goesOn) := goodIn_app (goodIn_of _ (by decide +kernel)) ggX5_lacks_X5_goesOn
theorem dX5_lacks_0 : decode cX5_lacks 0 = .ok (.aload_n 0, 1) := by decide +kernel
theorem dX5_lacks_1 : decode cX5_lacks 1 = .ok (.aload_n 0, 1) := by decide +kernel
theorem dX5_lacks_2 : decode cX5_lacks 2 = .ok (.iload_n 1, 1) := by decide +kernel
theorem dX5_lacks_3 : decode cX5_lacks 3 = .ok (.invokevirtual 95, 3) := by decide +kernel
theorem dX5_lacks_6 : decode cX5_lacks 6 = .ok (.ifCond .eq 7, 3) := by decide +kernel
theorem dX5_lacks_9 : decode cX5_lacks 9 = .ok (.iconst 0, 1) := by decide +kernel
theorem dX5_lacks_10 : decode cX5_lacks 10 = .ok (.goto 4, 3) := by decide +kernel
theorem dX5_lacks_13 : decode cX5_lacks 13 = .ok (.iconst 1, 1) := by decide +kernel
theorem dX5_lacks_14 : decode cX5_lacks 14 = .ok (.invokevirtual 75, 3) := by decide +kernel
theorem dX5_lacks_17 : decode cX5_lacks 17 = .ok (.ifCond .eq 12, 3) := by decide +kernel
theorem dX5_lacks_20 : decode cX5_lacks 20 = .ok (.aload_n 0, 1) := by decide +kernel
theorem dX5_lacks_21 : decode cX5_lacks 21 = .ok (.getfield 30, 3) := by decide +kernel
theorem dX5_lacks_24 : decode cX5_lacks 24 = .ok (.iload_n 1, 1) := by decide +kernel
theorem dX5_lacks_25 : decode cX5_lacks 25 = .ok (.iaload, 1) := by decide +kernel
theorem dX5_lacks_26 : decode cX5_lacks 26 = .ok (.goto 4, 3) := by decide +kernel
theorem dX5_lacks_29 : decode cX5_lacks 29 = .ok (.iconst 0, 1) := by decide +kernel
theorem dX5_lacks_30 : decode cX5_lacks 30 = .ok (.ireturn, 1) := by decide +kernel
set_option maxRecDepth 20000 in
theorem ggX5_tries_X5_tries : GoodIn wsX5_tries wsX5_tries := goodIn_ca (goodIn_ca (goodIn_r _ [0, 1, 2, 3, 4, 5, 6, 7, 8, 9, 10, 11, 12, 13, 14, 15, 16, 17, 18, 19, 20, 21, 22, 23, 24, 25, 26, 27, 28, 29, 30, 31, 32, 33, 34, 35, 36, 37, 38, 39, 40, 41] (by decide +kernel) (by decide +kernel)) (goodIn_sub (fun _ h => List.mem_cons_of_mem _ (List.mem_append_left _ (List.mem_append_right _ h))) (by decide +kernel))) (goodIn_sub (fun _ h => List.mem_cons_of_mem _ (List.mem_append_right _ h)) (by decide +kernel))
set_option maxRecDepth 20000 in
theorem gX5_tries_X5_tries : GoodIn wsX5_tries (wsV RX5 101 RX5 yX5_tries wsX5_tries) := goodIn_app (goodIn_of _ (by decide +kernel)) ggX5_tries_X5_tries
theorem dX5_tries_0 : decode cX5_tries 0 = .ok (.iload_n 2, 1) := by decide +kernel
theorem dX5_tries_1 : decode cX5_tries 1 = .ok (.aload_n 0, 1) := by decide +kernel
theorem dX5_tries_2 : decode cX5_tries 2 = .ok (.getfield 68, 3) := by decide +kernel
theorem dX5_tries_5 : decode cX5_tries 5 = .ok (.if_icmp .ne 51, 3) := by decide +kernel
theorem dX5_tries_8 : decode cX5_tries 8 = .ok (.iload 4, 2) := by decide +kernel
theorem dX5_tries_10 : decode cX5_tries 10 = .ok (.aload_n 0, 1) := by decide +kernel
theorem dX5_tries_11 : decode cX5_tries 11 = .ok (.getfield 98, 3) := by decide +kernel
theorem dX5_tries_14 : decode cX5_tries 14 = .ok (.if_icmp .le 41, 3) := by decide +kernel
theorem dX5_tries_17 : decode cX5_tries 17 = .ok (.aload_n 0, 1) := by decide +kernel
theorem dX5_tries_18 : decode cX5_tries 18 = .ok (.iload 4, 2) := by decide +kernel
theorem dX5_tries_20 : decode cX5_tries 20 = .ok (.putfield 98, 3) := by decide +kernel
theorem dX5_tries_23 : decode cX5_tries 23 = .ok (.iconst 0, 1) := by decide +kernel
theorem dX5_tries_24 : decode cX5_tries 24 = .ok (.istore 5, 2) := by decide +kernel
theorem dX5_tries_26 : decode cX5_tries 26 = .ok (.iload 5, 2) := by decide +kernel
theorem dX5_tries_28 : decode cX5_tries 28 = .ok (.aload_n 0, 1) := by decide +kernel
theorem dX5_tries_29 : decode cX5_tries 29 = .ok (.getfield 68, 3) := by decide +kernel
theorem dX5_tries_32 : decode cX5_tries 32 = .ok (.if_icmp .ge 23, 3) := by decide +kernel
theorem dX5_tries_35 : decode cX5_tries 35 = .ok (.aload_n 0, 1) := by decide +kernel
theorem dX5_tries_36 : decode cX5_tries 36 = .ok (.getfield 55, 3) := by decide +kernel
theorem dX5_tries_39 : decode cX5_tries 39 = .ok (.iload 5, 2) := by decide +kernel
theorem dX5_tries_41 : decode cX5_tries 41 = .ok (.aload_n 0, 1) := by decide +kernel
theorem dX5_tries_42 : decode cX5_tries 42 = .ok (.getfield 52, 3) := by decide +kernel
theorem dX5_tries_45 : decode cX5_tries 45 = .ok (.iload 5, 2) := by decide +kernel
theorem dX5_tries_47 : decode cX5_tries 47 = .ok (.iaload, 1) := by decide +kernel
theorem dX5_tries_48 : decode cX5_tries 48 = .ok (.iastore, 1) := by decide +kernel
theorem dX5_tries_49 : decode cX5_tries 49 = .ok (.iinc 5 1, 3) := by decide +kernel
theorem dX5_tries_52 : decode cX5_tries 52 = .ok (.goto (-26), 3) := by decide +kernel
theorem dX5_tries_55 : decode cX5_tries 55 = .ok (.return_, 1) := by decide +kernel
theorem dX5_tries_56 : decode cX5_tries 56 = .ok (.aload_n 0, 1) := by decide +kernel
theorem dX5_tries_57 : decode cX5_tries 57 = .ok (.getfield 24, 3) := by decide +kernel
theorem dX5_tries_60 : decode cX5_tries 60 = .ok (.iload_n 2, 1) := by decide +kernel
theorem dX5_tries_61 : decode cX5_tries 61 = .ok (.iaload, 1) := by decide +kernel
theorem dX5_tries_62 : decode cX5_tries 62 = .ok (.iload_n 1, 1) := by decide +kernel
theorem dX5_tries_63 : decode cX5_tries 63 = .ok (.if_icmp .ne 12, 3) := by decide +kernel
theorem dX5_tries_66 : decode cX5_tries 66 = .ok (.aload_n 0, 1) := by decide +kernel
theorem dX5_tries_67 : decode cX5_tries 67 = .ok (.getfield 30, 3) := by decide +kernel
theorem dX5_tries_70 : decode cX5_tries 70 = .ok (.iload_n 2, 1) := by decide +kernel
theorem dX5_tries_71 : decode cX5_tries 71 = .ok (.iaload, 1) := by decide +kernel
theorem dX5_tries_72 : decode cX5_tries 72 = .ok (.goto 4, 3) := by decide +kernel
theorem dX5_tries_75 : decode cX5_tries 75 = .ok (.iconst 0, 1) := by decide +kernel
theorem dX5_tries_76 : decode cX5_tries 76 = .ok (.istore 5, 2) := by decide +kernel
theorem dX5_tries_78 : decode cX5_tries 78 = .ok (.iload 5, 2) := by decide +kernel
theorem dX5_tries_80 : decode cX5_tries 80 = .ok (.bipush 6, 2) := by decide +kernel
theorem dX5_tries_82 : decode cX5_tries 82 = .ok (.iload_n 3, 1) := by decide +kernel
theorem dX5_tries_83 : decode cX5_tries 83 = .ok (.isub, 1) := by decide +kernel
theorem dX5_tries_84 : decode cX5_tries 84 = .ok (.if_icmp .ge 8, 3) := by decide +kernel
theorem dX5_tries_87 : decode cX5_tries 87 = .ok (.iload 5, 2) := by decide +kernel
theorem dX5_tries_89 : decode cX5_tries 89 = .ok (.goto 7, 3) := by decide +kernel
theorem dX5_tries_92 : decode cX5_tries 92 = .ok (.bipush 6, 2) := by decide +kernel
theorem dX5_tries_94 : decode cX5_tries 94 = .ok (.iload_n 3, 1) := by decide +kernel
theorem dX5_tries_95 : decode cX5_tries 95 = .ok (.isub, 1) := by decide +kernel
theorem dX5_tries_96 : decode cX5_tries 96 = .ok (.istore 5, 2) := by decide +kernel
theorem dX5_tries_98 : decode cX5_tries 98 = .ok (.iload 5, 2) := by decide +kernel
theorem dX5_tries_100 : decode cX5_tries 100 = .ok (.aload_n 0, 1) := by decide +kernel
theorem dX5_tries_101 : decode cX5_tries 101 = .ok (.getfield 13, 3) := by decide +kernel
theorem dX5_tries_104 : decode cX5_tries 104 = .ok (.iload 4, 2) := by decide +kernel
theorem dX5_tries_106 : decode cX5_tries 106 = .ok (.isub, 1) := by decide +kernel
theorem dX5_tries_107 : decode cX5_tries 107 = .ok (.aload_n 0, 1) := by decide +kernel
theorem dX5_tries_108 : decode cX5_tries 108 = .ok (.getfield 27, 3) := by decide +kernel
theorem dX5_tries_111 : decode cX5_tries 111 = .ok (.iload_n 2, 1) := by decide +kernel
theorem dX5_tries_112 : decode cX5_tries 112 = .ok (.iaload, 1) := by decide +kernel
theorem dX5_tries_113 : decode cX5_tries 113 = .ok (.idiv, 1) := by decide +kernel
theorem dX5_tries_114 : decode cX5_tries 114 = .ok (.if_icmp .ge 8, 3) := by decide +kernel
theorem dX5_tries_117 : decode cX5_tries 117 = .ok (.iload 5, 2) := by decide +kernel
theorem dX5_tries_119 : decode cX5_tries 119 = .ok (.goto 17, 3) := by decide +kernel
theorem dX5_tries_122 : decode cX5_tries 122 = .ok (.aload_n 0, 1) := by decide +kernel
theorem dX5_tries_123 : decode cX5_tries 123 = .ok (.getfield 13, 3) := by decide +kernel
theorem dX5_tries_126 : decode cX5_tries 126 = .ok (.iload 4, 2) := by decide +kernel
theorem dX5_tries_128 : decode cX5_tries 128 = .ok (.isub, 1) := by decide +kernel
theorem dX5_tries_129 : decode cX5_tries 129 = .ok (.aload_n 0, 1) := by decide +kernel
theorem dX5_tries_130 : decode cX5_tries 130 = .ok (.getfield 27, 3) := by decide +kernel
theorem dX5_tries_133 : decode cX5_tries 133 = .ok (.iload_n 2, 1) := by decide +kernel
theorem dX5_tries_134 : decode cX5_tries 134 = .ok (.iaload, 1) := by decide +kernel
theorem dX5_tries_135 : decode cX5_tries 135 = .ok (.idiv, 1) := by decide +kernel
theorem dX5_tries_136 : decode cX5_tries 136 = .ok (.istore 5, 2) := by decide +kernel
theorem dX5_tries_138 : decode cX5_tries 138 = .ok (.iload 5, 2) := by decide +kernel
theorem dX5_tries_140 : decode cX5_tries 140 = .ok (.istore 6, 2) := by decide +kernel
theorem dX5_tries_142 : decode cX5_tries 142 = .ok (.iload 6, 2) := by decide +kernel
theorem dX5_tries_144 : decode cX5_tries 144 = .ok (.ifCond .lt 41, 3) := by decide +kernel
theorem dX5_tries_147 : decode cX5_tries 147 = .ok (.aload_n 0, 1) := by decide +kernel
theorem dX5_tries_148 : decode cX5_tries 148 = .ok (.getfield 52, 3) := by decide +kernel
theorem dX5_tries_151 : decode cX5_tries 151 = .ok (.iload_n 2, 1) := by decide +kernel
theorem dX5_tries_152 : decode cX5_tries 152 = .ok (.iload 6, 2) := by decide +kernel
theorem dX5_tries_154 : decode cX5_tries 154 = .ok (.iastore, 1) := by decide +kernel
theorem dX5_tries_155 : decode cX5_tries 155 = .ok (.aload_n 0, 1) := by decide +kernel
theorem dX5_tries_156 : decode cX5_tries 156 = .ok (.iload_n 1, 1) := by decide +kernel
theorem dX5_tries_157 : decode cX5_tries 157 = .ok (.iload_n 2, 1) := by decide +kernel
theorem dX5_tries_158 : decode cX5_tries 158 = .ok (.iconst 1, 1) := by decide +kernel
theorem dX5_tries_159 : decode cX5_tries 159 = .ok (.iadd, 1) := by decide +kernel
theorem dX5_tries_160 : decode cX5_tries 160 = .ok (.iload_n 3, 1) := by decide +kernel
theorem dX5_tries_161 : decode cX5_tries 161 = .ok (.iload 6, 2) := by decide +kernel
theorem dX5_tries_163 : decode cX5_tries 163 = .ok (.iadd, 1) := by decide +kernel
theorem dX5_tries_164 : decode cX5_tries 164 = .ok (.iload 4, 2) := by decide +kernel
theorem dX5_tries_166 : decode cX5_tries 166 = .ok (.iload 6, 2) := by decide +kernel
theorem dX5_tries_168 : decode cX5_tries 168 = .ok (.aload_n 0, 1) := by decide +kernel
theorem dX5_tries_169 : decode cX5_tries 169 = .ok (.getfield 27, 3) := by decide +kernel
theorem dX5_tries_172 : decode cX5_tries 172 = .ok (.iload_n 2, 1) := by decide +kernel
theorem dX5_tries_173 : decode cX5_tries 173 = .ok (.iaload, 1) := by decide +kernel
theorem dX5_tries_174 : decode cX5_tries 174 = .ok (.imul, 1) := by decide +kernel
theorem dX5_tries_175 : decode cX5_tries 175 = .ok (.iadd, 1) := by decide +kernel
theorem dX5_tries_176 : decode cX5_tries 176 = .ok (.invokevirtual 101, 3) := by decide +kernel
theorem dX5_tries_179 : decode cX5_tries 179 = .ok (.iinc 6 (-1), 3) := by decide +kernel
theorem dX5_tries_182 : decode cX5_tries 182 = .ok (.goto (-40), 3) := by decide +kernel
theorem dX5_tries_185 : decode cX5_tries 185 = .ok (.return_, 1) := by decide +kernel
set_option maxRecDepth 20000 in
theorem ggX5_looks_X5_tries : GoodIn wsX5_looks wsX5_tries := goodIn_ca (goodIn_ca (goodIn_r _ [6, 7, 1, 8, 9, 10, 11, 12, 13, 2, 3, 4, 5, 14, 15, 16, 17, 18, 19, 20, 21, 22, 23, 24, 25, 26, 27, 28, 29, 30, 31, 32, 33, 34, 35, 36, 37, 38, 39, 40, 41, 42] (by decide +kernel) (by decide +kernel)) (goodIn_sub (fun _ h => List.mem_cons_of_mem _ (List.mem_append_left _ (List.mem_append_right _ h))) (by decide +kernel))) (goodIn_sub (fun _ h => List.mem_cons_of_mem _ (List.mem_append_right _ h)) (by decide +kernel))
set_option maxRecDepth 20000 in
theorem gX5_looks_X5_tries : GoodIn wsX5_looks (wsV RX5 101 RX5 yX5_tries wsX5_tries) := goodIn_app (goodIn_of _ (by decide +kernel)) ggX5_looks_X5_tries
theorem dX5_looks_0 : decode cX5_looks 0 = .ok (.aload_n 0, 1) := by decide +kernel
theorem dX5_looks_1 : decode cX5_looks 1 = .ok (.iconst (-1), 1) := by decide +kernel
theorem dX5_looks_2 : decode cX5_looks 2 = .ok (.putfield 98, 3) := by decide +kernel
theorem dX5_looks_5 : decode cX5_looks 5 = .ok (.aload_n 0, 1) := by decide +kernel
theorem dX5_looks_6 : decode cX5_looks 6 = .ok (.iload_n 1, 1) := by decide +kernel
theorem dX5_looks_7 : decode cX5_looks 7 = .ok (.iconst 0, 1) := by decide +kernel
theorem dX5_looks_8 : decode cX5_looks 8 = .ok (.iconst 0, 1) := by decide +kernel
theorem dX5_looks_9 : decode cX5_looks 9 = .ok (.iconst 0, 1) := by decide +kernel
theorem dX5_looks_10 : decode cX5_looks 10 = .ok (.invokevirtual 101, 3) := by decide +kernel
theorem dX5_looks_13 : decode cX5_looks 13 = .ok (.aload_n 0, 1) := by decide +kernel
theorem dX5_looks_14 : decode cX5_looks 14 = .ok (.getfield 98, 3) := by decide +kernel
theorem dX5_looks_17 : decode cX5_looks 17 = .ok (.ireturn, 1) := by decide +kernel
set_option maxRecDepth 20000 in
theorem ggX5_trim_X5_isGrade : GoodIn wsX5_trim wsX5_isGrade := goodIn_r _ [6, 7, 8, 9, 5, 10, 31, 32, 33, 34, 35, 36, 37, 38, 39, 40, 41, 42, 43, 44, 45, 46, 47, 48, 49, 50, 51, 52, 53, 54, 55, 56, 57, 58, 59] (by decide +kernel) (by decide +kernel)
set_option maxRecDepth 20000 in
theorem gX5_trim_X5_isGrade : GoodIn wsX5_trim (wsV RX5 78 RX5 yX5_isGrade wsX5_isGrade) := goodIn_app (goodIn_of _ (by decide +kernel)) ggX5_trim_X5_isGrade
set_option maxRecDepth 20000 in
theorem ggX5_trim_X5_goesOn : GoodIn wsX5_trim wsX5_goesOn := goodIn_r _ [14, 15, 31, 32, 33, 34, 35, 36, 37, 38, 39, 40, 41, 42, 43, 44, 45, 46, 47, 48, 49, 50, 51, 52, 53, 54, 55, 56, 57, 58, 59] (by decide +kernel) (by decide +kernel)
set_option maxRecDepth 20000 in
theorem gX5_trim_X5_goesOn : GoodIn wsX5_trim (wsV RX5 75 RX5 yX5_goesOn wsX5_goesOn) := goodIn_app (goodIn_of _ (by decide +kernel)) ggX5_trim_X5_goesOn
set_option maxRecDepth 20000 in
theorem ggX5_trim_X5_looks : GoodIn wsX5_trim wsX5_looks := goodIn_ca (goodIn_ca (goodIn_r _ [19, 20, 21, 22, 23, 5, 24, 25, 26, 27, 28, 29, 1, 30, 31, 32, 33, 34, 35, 36, 37, 38, 39, 40, 41, 42, 43, 44, 45, 46, 47, 48, 49, 50, 51, 52, 53, 54, 55, 56, 57, 58, 59] (by decide +kernel) (by decide +kernel)) (goodIn_sub (fun _ h => List.mem_cons_of_mem _ (List.mem_append_left _ (List.mem_append_right _ h))) (by decide +kernel))) (goodIn_sub (fun _ h => List.mem_cons_of_mem _ (List.mem_append_right _ h)) (by decide +kernel))
set_option maxRecDepth 20000 in
theorem gX5_trim_X5_looks : GoodIn wsX5_trim (wsV RX5 105 RX5 yX5_looks wsX5_looks) := goodIn_app (goodIn_of _ (by decide +kernel)) ggX5_trim_X5_looks
theorem dX5_trim_0 : decode cX5_trim 0 = .ok (.aload_n 0, 1) := by decide +kernel
theorem dX5_trim_1 : decode cX5_trim 1 = .ok (.aload_n 0, 1) := by decide +kernel
theorem dX5_trim_2 : decode cX5_trim 2 = .ok (.iload_n 1, 1) := by decide +kernel
theorem dX5_trim_3 : decode cX5_trim 3 = .ok (.invokevirtual 78, 3) := by decide +kernel
theorem dX5_trim_6 : decode cX5_trim 6 = .ok (.ifCond .eq 7, 3) := by decide +kernel
theorem dX5_trim_9 : decode cX5_trim 9 = .ok (.iconst 0, 1) := by decide +kernel
theorem dX5_trim_10 : decode cX5_trim 10 = .ok (.goto 4, 3) := by decide +kernel
theorem dX5_trim_13 : decode cX5_trim 13 = .ok (.iconst 1, 1) := by decide +kernel
theorem dX5_trim_14 : decode cX5_trim 14 = .ok (.invokevirtual 75, 3) := by decide +kernel
theorem dX5_trim_17 : decode cX5_trim 17 = .ok (.ifCond .eq 16, 3) := by decide +kernel
theorem dX5_trim_20 : decode cX5_trim 20 = .ok (.aload_n 0, 1) := by decide +kernel
theorem dX5_trim_21 : decode cX5_trim 21 = .ok (.getfield 13, 3) := by decide +kernel
theorem dX5_trim_24 : decode cX5_trim 24 = .ok (.aload_n 0, 1) := by decide +kernel
theorem dX5_trim_25 : decode cX5_trim 25 = .ok (.iload_n 1, 1) := by decide +kernel
theorem dX5_trim_26 : decode cX5_trim 26 = .ok (.invokevirtual 105, 3) := by decide +kernel
theorem dX5_trim_29 : decode cX5_trim 29 = .ok (.isub, 1) := by decide +kernel
theorem dX5_trim_30 : decode cX5_trim 30 = .ok (.goto 4, 3) := by decide +kernel
theorem dX5_trim_33 : decode cX5_trim 33 = .ok (.iconst 0, 1) := by decide +kernel
theorem dX5_trim_34 : decode cX5_trim 34 = .ok (.ireturn, 1) := by decide +kernel
set_option maxRecDepth 20000 in
theorem ggX5_trimByTable_X5_trim : GoodIn wsX5_trimByTable wsX5_trim := goodIn_ca (goodIn_ca (goodIn_r _ [5, 6, 7, 8, 9, 4, 10, 11, 12, 13, 14, 15, 16, 17, 18, 19, 20, 21, 22, 23, 24, 25, 26, 27, 28, 29, 30, 31, 32, 33, 34, 35, 36, 37, 38, 39, 40, 41, 42, 43, 44, 45, 46, 47, 48, 49, 50, 51, 52, 53, 54, 55, 56, 57, 58, 59, 60, 61, 62, 63] (by decide +kernel) (by decide +kernel)) (goodIn_sub (fun _ h => List.mem_cons_of_mem _ (List.mem_append_left _ (List.mem_append_right _ h))) (by decide +kernel))) (goodIn_sub (fun _ h => List.mem_cons_of_mem _ (List.mem_append_right _ h)) (by decide +kernel))
set_option maxRecDepth 20000 in
theorem gX5_trimByTable_X5_trim : GoodIn wsX5_trimByTable (wsV RX5 108 RX5 yX5_trim wsX5_trim) := goodIn_app (goodIn_of _ (by decide +kernel)) ggX5_trimByTable_X5_trim
theorem dX5_trimByTable_0 : decode cX5_trimByTable 0 = .ok (.aload_n 0, 1) := by decide +kernel
theorem dX5_trimByTable_1 : decode cX5_trimByTable 1 = .ok (.iload_n 1, 1) := by decide +kernel
theorem dX5_trimByTable_2 : decode cX5_trimByTable 2 = .ok (.invokevirtual 108, 3) := by decide +kernel
theorem dX5_trimByTable_5 : decode cX5_trimByTable 5 = .ok (.ireturn, 1) := by decide +kernel
set_option maxRecDepth 20000 in
theorem ggX5_inCut_X5_isOrder : GoodIn wsX5_inCut wsX5_isOrder := goodIn_r _ [7, 8, 9, 10, 6, 11, 30, 31, 32, 33, 34, 35, 36, 37, 38, 39, 40, 41, 42, 43, 44, 45, 46, 47, 48, 49, 50, 51, 52, 53, 54, 55, 56, 57, 58] (by decide +kernel) (by decide +kernel)
set_option maxRecDepth 20000 in
theorem gX5_inCut_X5_isOrder : GoodIn wsX5_inCut (wsV RX5 95 RX5 yX5_isOrder wsX5_isOrder) := goodIn_app (goodIn_of _ (by decide +kernel)) ggX5_inCut_X5_isOrder
set_option maxRecDepth 20000 in
theorem ggX5_inCut_X5_goesOn : GoodIn wsX5_inCut wsX5_goesOn := goodIn_r _ [15, 16, 30, 31, 32, 33, 34, 35, 36, 37, 38, 39, 40, 41, 42, 43, 44, 45, 46, 47, 48, 49, 50, 51, 52, 53, 54, 55, 56, 57, 58] (by decide +kernel) (by decide +kernel)
set_option maxRecDepth 20000 in
theorem gX5_inCut_X5_goesOn : GoodIn wsX5_inCut (wsV RX5 75 RX5 yX5_goesOn wsX5_goesOn) := goodIn_app (goodIn_of _ (by decide +kernel)) ggX5_inCut_X5_goesOn
set_option maxRecDepth 20000 in
theorem ggX5_inCut_X5_looks : GoodIn wsX5_inCut wsX5_looks := goodIn_ca (goodIn_ca (goodIn_r _ [20, 21, 22, 23, 24, 6, 25, 8, 2, 26, 1, 27, 28, 29, 30, 31, 32, 33, 34, 35, 36, 37, 38, 39, 40, 41, 42, 43, 44, 45, 46, 47, 48, 49, 50, 51, 52, 53, 54, 55, 56, 57, 58] (by decide +kernel) (by decide +kernel)) (goodIn_sub (fun _ h => List.mem_cons_of_mem _ (List.mem_append_left _ (List.mem_append_right _ h))) (by decide +kernel))) (goodIn_sub (fun _ h => List.mem_cons_of_mem _ (List.mem_append_right _ h)) (by decide +kernel))
set_option maxRecDepth 20000 in
theorem gX5_inCut_X5_looks : GoodIn wsX5_inCut (wsV RX5 105 RX5 yX5_looks wsX5_looks) := goodIn_app (goodIn_of _ (by decide +kernel)) ggX5_inCut_X5_looks
theorem dX5_inCut_0 : decode cX5_inCut 0 = .ok (.aload_n 0, 1) := by decide +kernel
theorem dX5_inCut_1 : decode cX5_inCut 1 = .ok (.aload_n 0, 1) := by decide +kernel
theorem dX5_inCut_2 : decode cX5_inCut 2 = .ok (.iload_n 1, 1) := by decide +kernel
theorem dX5_inCut_3 : decode cX5_inCut 3 = .ok (.invokevirtual 95, 3) := by decide +kernel
theorem dX5_inCut_6 : decode cX5_inCut 6 = .ok (.ifCond .eq 7, 3) := by decide +kernel
theorem dX5_inCut_9 : decode cX5_inCut 9 = .ok (.iconst 0, 1) := by decide +kernel
theorem dX5_inCut_10 : decode cX5_inCut 10 = .ok (.goto 4, 3) := by decide +kernel
theorem dX5_inCut_13 : decode cX5_inCut 13 = .ok (.iconst 1, 1) := by decide +kernel
theorem dX5_inCut_14 : decode cX5_inCut 14 = .ok (.invokevirtual 75, 3) := by decide +kernel
theorem dX5_inCut_17 : decode cX5_inCut 17 = .ok (.ifCond .ne 5, 3) := by decide +kernel
theorem dX5_inCut_20 : decode cX5_inCut 20 = .ok (.iconst 0, 1) := by decide +kernel
theorem dX5_inCut_21 : decode cX5_inCut 21 = .ok (.ireturn, 1) := by decide +kernel
theorem dX5_inCut_22 : decode cX5_inCut 22 = .ok (.aload_n 0, 1) := by decide +kernel
theorem dX5_inCut_23 : decode cX5_inCut 23 = .ok (.aload_n 0, 1) := by decide +kernel
theorem dX5_inCut_24 : decode cX5_inCut 24 = .ok (.getfield 24, 3) := by decide +kernel
theorem dX5_inCut_27 : decode cX5_inCut 27 = .ok (.iload_n 1, 1) := by decide +kernel
theorem dX5_inCut_28 : decode cX5_inCut 28 = .ok (.iaload, 1) := by decide +kernel
theorem dX5_inCut_29 : decode cX5_inCut 29 = .ok (.invokevirtual 105, 3) := by decide +kernel
theorem dX5_inCut_32 : decode cX5_inCut 32 = .ok (.istore_n 2, 1) := by decide +kernel
theorem dX5_inCut_33 : decode cX5_inCut 33 = .ok (.aload_n 0, 1) := by decide +kernel
theorem dX5_inCut_34 : decode cX5_inCut 34 = .ok (.getfield 55, 3) := by decide +kernel
theorem dX5_inCut_37 : decode cX5_inCut 37 = .ok (.iload_n 1, 1) := by decide +kernel
theorem dX5_inCut_38 : decode cX5_inCut 38 = .ok (.iaload, 1) := by decide +kernel
theorem dX5_inCut_39 : decode cX5_inCut 39 = .ok (.ireturn, 1) := by decide +kernel
set_option maxRecDepth 20000 in
theorem ggX5_leastHours_X5_isGrade : GoodIn wsX5_leastHours wsX5_isGrade := goodIn_r _ [10, 11, 12, 13, 9, 14, 20, 21, 22, 23, 24, 25, 26, 27, 28, 29, 30, 31, 32, 33, 34, 35, 36, 37, 38, 39, 40, 41, 42, 43, 44, 45, 46, 47, 48] (by decide +kernel) (by decide +kernel)
set_option maxRecDepth 20000 in
theorem gX5_leastHours_X5_isGrade : GoodIn wsX5_leastHours (wsV RX5 78 RX5 yX5_isGrade wsX5_isGrade) := goodIn_app (goodIn_of _ (by decide +kernel)) ggX5_leastHours_X5_isGrade
set_option maxRecDepth 20000 in
theorem ggX5_leastHours_X5_goesOn : GoodIn wsX5_leastHours wsX5_goesOn := goodIn_r _ [18, 19, 20, 21, 22, 23, 24, 25, 26, 27, 28, 29, 30, 31, 32, 33, 34, 35, 36, 37, 38, 39, 40, 41, 42, 43, 44, 45, 46, 47, 48] (by decide +kernel) (by decide +kernel)
set_option maxRecDepth 20000 in
theorem gX5_leastHours_X5_goesOn : GoodIn wsX5_leastHours (wsV RX5 75 RX5 yX5_goesOn wsX5_goesOn) := goodIn_app (goodIn_of _ (by decide +kernel)) ggX5_leastHours_X5_goesOn
theorem dX5_leastHours_0 : decode cX5_leastHours 0 = .ok (.aload_n 0, 1) := by decide +kernel
theorem dX5_leastHours_1 : decode cX5_leastHours 1 = .ok (.aload_n 0, 1) := by decide +kernel
theorem dX5_leastHours_2 : decode cX5_leastHours 2 = .ok (.iload_n 1, 1) := by decide +kernel
theorem dX5_leastHours_3 : decode cX5_leastHours 3 = .ok (.invokevirtual 78, 3) := by decide +kernel
theorem dX5_leastHours_6 : decode cX5_leastHours 6 = .ok (.ifCond .eq 7, 3) := by decide +kernel
theorem dX5_leastHours_9 : decode cX5_leastHours 9 = .ok (.iconst 0, 1) := by decide +kernel
theorem dX5_leastHours_10 : decode cX5_leastHours 10 = .ok (.goto 4, 3) := by decide +kernel
theorem dX5_leastHours_13 : decode cX5_leastHours 13 = .ok (.iconst 1, 1) := by decide +kernel
theorem dX5_leastHours_14 : decode cX5_leastHours 14 = .ok (.invokevirtual 75, 3) := by decide +kernel
theorem dX5_leastHours_17 : decode cX5_leastHours 17 = .ok (.ifCond .ne 5, 3) := by decide +kernel
theorem dX5_leastHours_20 : decode cX5_leastHours 20 = .ok (.iconst 0, 1) := by decide +kernel
theorem dX5_leastHours_21 : decode cX5_leastHours 21 = .ok (.ireturn, 1) := by decide +kernel
theorem dX5_leastHours_22 : decode cX5_leastHours 22 = .ok (.iconst 0, 1) := by decide +kernel
theorem dX5_leastHours_23 : decode cX5_leastHours 23 = .ok (.istore_n 2, 1) := by decide +kernel
theorem dX5_leastHours_24 : decode cX5_leastHours 24 = .ok (.iconst 0, 1) := by decide +kernel
theorem dX5_leastHours_25 : decode cX5_leastHours 25 = .ok (.istore_n 3, 1) := by decide +kernel
theorem dX5_leastHours_26 : decode cX5_leastHours 26 = .ok (.iconst 0, 1) := by decide +kernel
theorem dX5_leastHours_27 : decode cX5_leastHours 27 = .ok (.istore 4, 2) := by decide +kernel
theorem dX5_leastHours_29 : decode cX5_leastHours 29 = .ok (.iload 4, 2) := by decide +kernel
theorem dX5_leastHours_31 : decode cX5_leastHours 31 = .ok (.aload_n 0, 1) := by decide +kernel
theorem dX5_leastHours_32 : decode cX5_leastHours 32 = .ok (.getfield 68, 3) := by decide +kernel
theorem dX5_leastHours_35 : decode cX5_leastHours 35 = .ok (.if_icmp .ge 67, 3) := by decide +kernel
theorem dX5_leastHours_38 : decode cX5_leastHours 38 = .ok (.iload_n 2, 1) := by decide +kernel
theorem dX5_leastHours_39 : decode cX5_leastHours 39 = .ok (.aload_n 0, 1) := by decide +kernel
theorem dX5_leastHours_40 : decode cX5_leastHours 40 = .ok (.getfield 24, 3) := by decide +kernel
theorem dX5_leastHours_43 : decode cX5_leastHours 43 = .ok (.iload 4, 2) := by decide +kernel
theorem dX5_leastHours_45 : decode cX5_leastHours 45 = .ok (.iaload, 1) := by decide +kernel
theorem dX5_leastHours_46 : decode cX5_leastHours 46 = .ok (.iload_n 1, 1) := by decide +kernel
theorem dX5_leastHours_47 : decode cX5_leastHours 47 = .ok (.if_icmp .ne 21, 3) := by decide +kernel
theorem dX5_leastHours_50 : decode cX5_leastHours 50 = .ok (.aload_n 0, 1) := by decide +kernel
theorem dX5_leastHours_51 : decode cX5_leastHours 51 = .ok (.getfield 30, 3) := by decide +kernel
theorem dX5_leastHours_54 : decode cX5_leastHours 54 = .ok (.iload 4, 2) := by decide +kernel
theorem dX5_leastHours_56 : decode cX5_leastHours 56 = .ok (.iaload, 1) := by decide +kernel
theorem dX5_leastHours_57 : decode cX5_leastHours 57 = .ok (.aload_n 0, 1) := by decide +kernel
theorem dX5_leastHours_58 : decode cX5_leastHours 58 = .ok (.getfield 27, 3) := by decide +kernel
theorem dX5_leastHours_61 : decode cX5_leastHours 61 = .ok (.iload 4, 2) := by decide +kernel
theorem dX5_leastHours_63 : decode cX5_leastHours 63 = .ok (.iaload, 1) := by decide +kernel
theorem dX5_leastHours_64 : decode cX5_leastHours 64 = .ok (.imul, 1) := by decide +kernel
theorem dX5_leastHours_65 : decode cX5_leastHours 65 = .ok (.goto 4, 3) := by decide +kernel
theorem dX5_leastHours_68 : decode cX5_leastHours 68 = .ok (.iconst 0, 1) := by decide +kernel
theorem dX5_leastHours_69 : decode cX5_leastHours 69 = .ok (.iadd, 1) := by decide +kernel
theorem dX5_leastHours_70 : decode cX5_leastHours 70 = .ok (.istore_n 2, 1) := by decide +kernel
theorem dX5_leastHours_71 : decode cX5_leastHours 71 = .ok (.iload_n 3, 1) := by decide +kernel
theorem dX5_leastHours_72 : decode cX5_leastHours 72 = .ok (.aload_n 0, 1) := by decide +kernel
theorem dX5_leastHours_73 : decode cX5_leastHours 73 = .ok (.getfield 24, 3) := by decide +kernel
theorem dX5_leastHours_76 : decode cX5_leastHours 76 = .ok (.iload 4, 2) := by decide +kernel
theorem dX5_leastHours_78 : decode cX5_leastHours 78 = .ok (.iaload, 1) := by decide +kernel
theorem dX5_leastHours_79 : decode cX5_leastHours 79 = .ok (.iload_n 1, 1) := by decide +kernel
theorem dX5_leastHours_80 : decode cX5_leastHours 80 = .ok (.if_icmp .ne 13, 3) := by decide +kernel
theorem dX5_leastHours_83 : decode cX5_leastHours 83 = .ok (.aload_n 0, 1) := by decide +kernel
theorem dX5_leastHours_84 : decode cX5_leastHours 84 = .ok (.getfield 30, 3) := by decide +kernel
theorem dX5_leastHours_87 : decode cX5_leastHours 87 = .ok (.iload 4, 2) := by decide +kernel
theorem dX5_leastHours_89 : decode cX5_leastHours 89 = .ok (.iaload, 1) := by decide +kernel
theorem dX5_leastHours_90 : decode cX5_leastHours 90 = .ok (.goto 4, 3) := by decide +kernel
theorem dX5_leastHours_93 : decode cX5_leastHours 93 = .ok (.iconst 0, 1) := by decide +kernel
theorem dX5_leastHours_94 : decode cX5_leastHours 94 = .ok (.iadd, 1) := by decide +kernel
theorem dX5_leastHours_95 : decode cX5_leastHours 95 = .ok (.istore_n 3, 1) := by decide +kernel
theorem dX5_leastHours_96 : decode cX5_leastHours 96 = .ok (.iinc 4 1, 3) := by decide +kernel
theorem dX5_leastHours_99 : decode cX5_leastHours 99 = .ok (.goto (-70), 3) := by decide +kernel
theorem dX5_leastHours_102 : decode cX5_leastHours 102 = .ok (.iload_n 2, 1) := by decide +kernel
theorem dX5_leastHours_103 : decode cX5_leastHours 103 = .ok (.aload_n 0, 1) := by decide +kernel
theorem dX5_leastHours_104 : decode cX5_leastHours 104 = .ok (.getfield 13, 3) := by decide +kernel
theorem dX5_leastHours_107 : decode cX5_leastHours 107 = .ok (.iadd, 1) := by decide +kernel
theorem dX5_leastHours_108 : decode cX5_leastHours 108 = .ok (.iconst 1, 1) := by decide +kernel
theorem dX5_leastHours_109 : decode cX5_leastHours 109 = .ok (.isub, 1) := by decide +kernel
theorem dX5_leastHours_110 : decode cX5_leastHours 110 = .ok (.aload_n 0, 1) := by decide +kernel
theorem dX5_leastHours_111 : decode cX5_leastHours 111 = .ok (.getfield 13, 3) := by decide +kernel
theorem dX5_leastHours_114 : decode cX5_leastHours 114 = .ok (.idiv, 1) := by decide +kernel
theorem dX5_leastHours_115 : decode cX5_leastHours 115 = .ok (.istore 4, 2) := by decide +kernel
theorem dX5_leastHours_117 : decode cX5_leastHours 117 = .ok (.iload_n 3, 1) := by decide +kernel
theorem dX5_leastHours_118 : decode cX5_leastHours 118 = .ok (.bipush 6, 2) := by decide +kernel
theorem dX5_leastHours_120 : decode cX5_leastHours 120 = .ok (.iadd, 1) := by decide +kernel
theorem dX5_leastHours_121 : decode cX5_leastHours 121 = .ok (.iconst 1, 1) := by decide +kernel
theorem dX5_leastHours_122 : decode cX5_leastHours 122 = .ok (.isub, 1) := by decide +kernel
theorem dX5_leastHours_123 : decode cX5_leastHours 123 = .ok (.bipush 6, 2) := by decide +kernel
theorem dX5_leastHours_125 : decode cX5_leastHours 125 = .ok (.idiv, 1) := by decide +kernel
theorem dX5_leastHours_126 : decode cX5_leastHours 126 = .ok (.istore 5, 2) := by decide +kernel
theorem dX5_leastHours_128 : decode cX5_leastHours 128 = .ok (.iload 4, 2) := by decide +kernel
theorem dX5_leastHours_130 : decode cX5_leastHours 130 = .ok (.iload 5, 2) := by decide +kernel
theorem dX5_leastHours_132 : decode cX5_leastHours 132 = .ok (.if_icmp .le 8, 3) := by decide +kernel
theorem dX5_leastHours_135 : decode cX5_leastHours 135 = .ok (.iload 4, 2) := by decide +kernel
theorem dX5_leastHours_137 : decode cX5_leastHours 137 = .ok (.goto 5, 3) := by decide +kernel
theorem dX5_leastHours_140 : decode cX5_leastHours 140 = .ok (.iload 5, 2) := by decide +kernel
theorem dX5_leastHours_142 : decode cX5_leastHours 142 = .ok (.ireturn, 1) := by decide +kernel
set_option maxRecDepth 20000 in
theorem ggX5_setShare_X5_in : GoodIn wsX5_setShare wsX5_in := goodIn_r _ [5] (by decide +kernel) (by decide +kernel)
set_option maxRecDepth 20000 in
theorem gX5_setShare_X5_in : GoodIn wsX5_setShare (va_wsS RX5 64 yX5_in wsX5_in) := goodIn_app (goodIn_of _ (by decide +kernel)) ggX5_setShare_X5_in
set_option maxRecDepth 20000 in
theorem ggX5_setShare_X5_goesOn : GoodIn wsX5_setShare wsX5_goesOn := goodIn_r _ [9, 10, 11, 12, 13, 14, 15, 16, 17, 18, 19, 20, 21, 22, 23, 24, 25, 26, 27, 28, 29, 30, 31, 32, 33, 34, 35, 36, 37, 38, 39] (by decide +kernel) (by decide +kernel)
set_option maxRecDepth 20000 in
theorem gX5_setShare_X5_goesOn : GoodIn wsX5_setShare (wsV RX5 75 RX5 yX5_goesOn wsX5_goesOn) := goodIn_app (goodIn_of _ (by decide +kernel)) ggX5_setShare_X5_goesOn
theorem dX5_setShare_0 : decode cX5_setShare 0 = .ok (.aload_n 0, 1) := by decide +kernel
theorem dX5_setShare_1 : decode cX5_setShare 1 = .ok (.getfield 36, 3) := by decide +kernel
theorem dX5_setShare_4 : decode cX5_setShare 4 = .ok (.istore_n 2, 1) := by decide +kernel
theorem dX5_setShare_5 : decode cX5_setShare 5 = .ok (.aload_n 0, 1) := by decide +kernel
theorem dX5_setShare_6 : decode cX5_setShare 6 = .ok (.aload_n 0, 1) := by decide +kernel
theorem dX5_setShare_7 : decode cX5_setShare 7 = .ok (.iload_n 1, 1) := by decide +kernel
theorem dX5_setShare_8 : decode cX5_setShare 8 = .ok (.iconst 0, 1) := by decide +kernel
theorem dX5_setShare_9 : decode cX5_setShare 9 = .ok (.bipush 50, 2) := by decide +kernel
theorem dX5_setShare_11 : decode cX5_setShare 11 = .ok (.invokestatic 64, 3) := by decide +kernel
theorem dX5_setShare_14 : decode cX5_setShare 14 = .ok (.ifCond .eq 7, 3) := by decide +kernel
theorem dX5_setShare_17 : decode cX5_setShare 17 = .ok (.iconst 0, 1) := by decide +kernel
theorem dX5_setShare_18 : decode cX5_setShare 18 = .ok (.goto 4, 3) := by decide +kernel
theorem dX5_setShare_21 : decode cX5_setShare 21 = .ok (.iconst 1, 1) := by decide +kernel
theorem dX5_setShare_22 : decode cX5_setShare 22 = .ok (.invokevirtual 75, 3) := by decide +kernel
theorem dX5_setShare_25 : decode cX5_setShare 25 = .ok (.ifCond .eq 7, 3) := by decide +kernel
theorem dX5_setShare_28 : decode cX5_setShare 28 = .ok (.iload_n 1, 1) := by decide +kernel
theorem dX5_setShare_29 : decode cX5_setShare 29 = .ok (.goto 7, 3) := by decide +kernel
theorem dX5_setShare_32 : decode cX5_setShare 32 = .ok (.aload_n 0, 1) := by decide +kernel
theorem dX5_setShare_33 : decode cX5_setShare 33 = .ok (.getfield 36, 3) := by decide +kernel
theorem dX5_setShare_36 : decode cX5_setShare 36 = .ok (.putfield 36, 3) := by decide +kernel
theorem dX5_setShare_39 : decode cX5_setShare 39 = .ok (.iload_n 2, 1) := by decide +kernel
theorem dX5_setShare_40 : decode cX5_setShare 40 = .ok (.ireturn, 1) := by decide +kernel
set_option maxRecDepth 20000 in
theorem ggX5_setContract_X5_in : GoodIn wsX5_setContract wsX5_in := goodIn_r _ [7] (by decide +kernel) (by decide +kernel)
set_option maxRecDepth 20000 in
theorem gX5_setContract_X5_in : GoodIn wsX5_setContract (va_wsS RX5 64 yX5_in wsX5_in) := goodIn_app (goodIn_of _ (by decide +kernel)) ggX5_setContract_X5_in
set_option maxRecDepth 20000 in
theorem ggX5_setContract_X5_goesOn : GoodIn wsX5_setContract wsX5_goesOn := goodIn_r _ [11, 12, 13, 14, 15, 16, 17, 18, 19, 20, 21, 22, 23, 24, 25, 26, 27, 28, 29, 30, 31, 32, 33, 34, 35, 36, 37, 38, 39, 40, 41] (by decide +kernel) (by decide +kernel)
set_option maxRecDepth 20000 in
theorem gX5_setContract_X5_goesOn : GoodIn wsX5_setContract (wsV RX5 75 RX5 yX5_goesOn wsX5_goesOn) := goodIn_app (goodIn_of _ (by decide +kernel)) ggX5_setContract_X5_goesOn
theorem dX5_setContract_0 : decode cX5_setContract 0 = .ok (.aload_n 0, 1) := by decide +kernel
theorem dX5_setContract_1 : decode cX5_setContract 1 = .ok (.iload_n 1, 1) := by decide +kernel
theorem dX5_setContract_2 : decode cX5_setContract 2 = .ok (.iconst 0, 1) := by decide +kernel
theorem dX5_setContract_3 : decode cX5_setContract 3 = .ok (.sipush 9999, 3) := by decide +kernel
theorem dX5_setContract_6 : decode cX5_setContract 6 = .ok (.invokestatic 64, 3) := by decide +kernel
theorem dX5_setContract_9 : decode cX5_setContract 9 = .ok (.ifCond .eq 27, 3) := by decide +kernel
theorem dX5_setContract_12 : decode cX5_setContract 12 = .ok (.iload_n 2, 1) := by decide +kernel
theorem dX5_setContract_13 : decode cX5_setContract 13 = .ok (.iconst 0, 1) := by decide +kernel
theorem dX5_setContract_14 : decode cX5_setContract 14 = .ok (.bipush 99, 2) := by decide +kernel
theorem dX5_setContract_16 : decode cX5_setContract 16 = .ok (.invokestatic 64, 3) := by decide +kernel
theorem dX5_setContract_19 : decode cX5_setContract 19 = .ok (.ifCond .eq 17, 3) := by decide +kernel
theorem dX5_setContract_22 : decode cX5_setContract 22 = .ok (.iload_n 3, 1) := by decide +kernel
theorem dX5_setContract_23 : decode cX5_setContract 23 = .ok (.iconst 0, 1) := by decide +kernel
theorem dX5_setContract_24 : decode cX5_setContract 24 = .ok (.bipush 99, 2) := by decide +kernel
theorem dX5_setContract_26 : decode cX5_setContract 26 = .ok (.invokestatic 64, 3) := by decide +kernel
theorem dX5_setContract_29 : decode cX5_setContract 29 = .ok (.ifCond .eq 7, 3) := by decide +kernel
theorem dX5_setContract_32 : decode cX5_setContract 32 = .ok (.iconst 0, 1) := by decide +kernel
theorem dX5_setContract_33 : decode cX5_setContract 33 = .ok (.goto 4, 3) := by decide +kernel
theorem dX5_setContract_36 : decode cX5_setContract 36 = .ok (.iconst 1, 1) := by decide +kernel
theorem dX5_setContract_37 : decode cX5_setContract 37 = .ok (.invokevirtual 75, 3) := by decide +kernel
theorem dX5_setContract_40 : decode cX5_setContract 40 = .ok (.ifCond .ne 5, 3) := by decide +kernel
theorem dX5_setContract_43 : decode cX5_setContract 43 = .ok (.iconst 0, 1) := by decide +kernel
theorem dX5_setContract_44 : decode cX5_setContract 44 = .ok (.ireturn, 1) := by decide +kernel
theorem dX5_setContract_45 : decode cX5_setContract 45 = .ok (.aload_n 0, 1) := by decide +kernel
theorem dX5_setContract_46 : decode cX5_setContract 46 = .ok (.getfield 39, 3) := by decide +kernel
theorem dX5_setContract_49 : decode cX5_setContract 49 = .ok (.istore 4, 2) := by decide +kernel
theorem dX5_setContract_51 : decode cX5_setContract 51 = .ok (.aload_n 0, 1) := by decide +kernel
theorem dX5_setContract_52 : decode cX5_setContract 52 = .ok (.iload_n 1, 1) := by decide +kernel
theorem dX5_setContract_53 : decode cX5_setContract 53 = .ok (.putfield 39, 3) := by decide +kernel
theorem dX5_setContract_56 : decode cX5_setContract 56 = .ok (.aload_n 0, 1) := by decide +kernel
theorem dX5_setContract_57 : decode cX5_setContract 57 = .ok (.iload_n 2, 1) := by decide +kernel
theorem dX5_setContract_58 : decode cX5_setContract 58 = .ok (.putfield 42, 3) := by decide +kernel
theorem dX5_setContract_61 : decode cX5_setContract 61 = .ok (.aload_n 0, 1) := by decide +kernel
theorem dX5_setContract_62 : decode cX5_setContract 62 = .ok (.iload_n 3, 1) := by decide +kernel
theorem dX5_setContract_63 : decode cX5_setContract 63 = .ok (.putfield 45, 3) := by decide +kernel
theorem dX5_setContract_66 : decode cX5_setContract 66 = .ok (.iload 4, 2) := by decide +kernel
theorem dX5_setContract_68 : decode cX5_setContract 68 = .ok (.ireturn, 1) := by decide +kernel
theorem dX5_makes_0 : decode cX5_makes 0 = .ok (.iload_n 1, 1) := by decide +kernel
theorem dX5_makes_1 : decode cX5_makes 1 = .ok (.bipush 50, 2) := by decide +kernel
theorem dX5_makes_3 : decode cX5_makes 3 = .ok (.idiv, 1) := by decide +kernel
theorem dX5_makes_4 : decode cX5_makes 4 = .ok (.istore_n 3, 1) := by decide +kernel
theorem dX5_makes_5 : decode cX5_makes 5 = .ok (.iload_n 1, 1) := by decide +kernel
theorem dX5_makes_6 : decode cX5_makes 6 = .ok (.iload_n 3, 1) := by decide +kernel
theorem dX5_makes_7 : decode cX5_makes 7 = .ok (.iadd, 1) := by decide +kernel
theorem dX5_makes_8 : decode cX5_makes 8 = .ok (.aload_n 0, 1) := by decide +kernel
theorem dX5_makes_9 : decode cX5_makes 9 = .ok (.getfield 36, 3) := by decide +kernel
theorem dX5_makes_12 : decode cX5_makes 12 = .ok (.imul, 1) := by decide +kernel
theorem dX5_makes_13 : decode cX5_makes 13 = .ok (.bipush 100, 2) := by decide +kernel
theorem dX5_makes_15 : decode cX5_makes 15 = .ok (.idiv, 1) := by decide +kernel
theorem dX5_makes_16 : decode cX5_makes 16 = .ok (.istore 4, 2) := by decide +kernel
theorem dX5_makes_18 : decode cX5_makes 18 = .ok (.iload 4, 2) := by decide +kernel
theorem dX5_makes_20 : decode cX5_makes 20 = .ok (.aload_n 0, 1) := by decide +kernel
theorem dX5_makes_21 : decode cX5_makes 21 = .ok (.getfield 111, 3) := by decide +kernel
theorem dX5_makes_24 : decode cX5_makes 24 = .ok (.if_icmp .ge 8, 3) := by decide +kernel
theorem dX5_makes_27 : decode cX5_makes 27 = .ok (.iload 4, 2) := by decide +kernel
theorem dX5_makes_29 : decode cX5_makes 29 = .ok (.goto 7, 3) := by decide +kernel
theorem dX5_makes_32 : decode cX5_makes 32 = .ok (.aload_n 0, 1) := by decide +kernel
theorem dX5_makes_33 : decode cX5_makes 33 = .ok (.getfield 111, 3) := by decide +kernel
theorem dX5_makes_36 : decode cX5_makes 36 = .ok (.istore 4, 2) := by decide +kernel
theorem dX5_makes_38 : decode cX5_makes 38 = .ok (.aload_n 0, 1) := by decide +kernel
theorem dX5_makes_39 : decode cX5_makes 39 = .ok (.dup, 1) := by decide +kernel
theorem dX5_makes_40 : decode cX5_makes 40 = .ok (.getfield 111, 3) := by decide +kernel
theorem dX5_makes_43 : decode cX5_makes 43 = .ok (.iload_n 2, 1) := by decide +kernel
theorem dX5_makes_44 : decode cX5_makes 44 = .ok (.iload 4, 2) := by decide +kernel
theorem dX5_makes_46 : decode cX5_makes 46 = .ok (.isub, 1) := by decide +kernel
theorem dX5_makes_47 : decode cX5_makes 47 = .ok (.iadd, 1) := by decide +kernel
theorem dX5_makes_48 : decode cX5_makes 48 = .ok (.putfield 111, 3) := by decide +kernel
theorem dX5_makes_51 : decode cX5_makes 51 = .ok (.aload_n 0, 1) := by decide +kernel
theorem dX5_makes_52 : decode cX5_makes 52 = .ok (.dup, 1) := by decide +kernel
theorem dX5_makes_53 : decode cX5_makes 53 = .ok (.getfield 114, 3) := by decide +kernel
theorem dX5_makes_56 : decode cX5_makes 56 = .ok (.iload_n 1, 1) := by decide +kernel
theorem dX5_makes_57 : decode cX5_makes 57 = .ok (.iload_n 3, 1) := by decide +kernel
theorem dX5_makes_58 : decode cX5_makes 58 = .ok (.iadd, 1) := by decide +kernel
theorem dX5_makes_59 : decode cX5_makes 59 = .ok (.iload 4, 2) := by decide +kernel
theorem dX5_makes_61 : decode cX5_makes 61 = .ok (.isub, 1) := by decide +kernel
theorem dX5_makes_62 : decode cX5_makes 62 = .ok (.i2l, 1) := by decide +kernel
theorem dX5_makes_63 : decode cX5_makes 63 = .ok (.ladd, 1) := by decide +kernel
theorem dX5_makes_64 : decode cX5_makes 64 = .ok (.putfield 114, 3) := by decide +kernel
theorem dX5_makes_67 : decode cX5_makes 67 = .ok (.aload_n 0, 1) := by decide +kernel
theorem dX5_makes_68 : decode cX5_makes 68 = .ok (.dup, 1) := by decide +kernel
theorem dX5_makes_69 : decode cX5_makes 69 = .ok (.getfield 118, 3) := by decide +kernel
theorem dX5_makes_72 : decode cX5_makes 72 = .ok (.iload_n 1, 1) := by decide +kernel
theorem dX5_makes_73 : decode cX5_makes 73 = .ok (.iload_n 2, 1) := by decide +kernel
theorem dX5_makes_74 : decode cX5_makes 74 = .ok (.isub, 1) := by decide +kernel
theorem dX5_makes_75 : decode cX5_makes 75 = .ok (.i2l, 1) := by decide +kernel
theorem dX5_makes_76 : decode cX5_makes 76 = .ok (.ladd, 1) := by decide +kernel
theorem dX5_makes_77 : decode cX5_makes 77 = .ok (.putfield 118, 3) := by decide +kernel
theorem dX5_makes_80 : decode cX5_makes 80 = .ok (.aload_n 0, 1) := by decide +kernel
theorem dX5_makes_81 : decode cX5_makes 81 = .ok (.dup, 1) := by decide +kernel
theorem dX5_makes_82 : decode cX5_makes 82 = .ok (.getfield 121, 3) := by decide +kernel
theorem dX5_makes_85 : decode cX5_makes 85 = .ok (.iload_n 3, 1) := by decide +kernel
theorem dX5_makes_86 : decode cX5_makes 86 = .ok (.i2l, 1) := by decide +kernel
theorem dX5_makes_87 : decode cX5_makes 87 = .ok (.ladd, 1) := by decide +kernel
theorem dX5_makes_88 : decode cX5_makes 88 = .ok (.putfield 121, 3) := by decide +kernel
theorem dX5_makes_91 : decode cX5_makes 91 = .ok (.aload_n 0, 1) := by decide +kernel
theorem dX5_makes_92 : decode cX5_makes 92 = .ok (.dup, 1) := by decide +kernel
theorem dX5_makes_93 : decode cX5_makes 93 = .ok (.getfield 124, 3) := by decide +kernel
theorem dX5_makes_96 : decode cX5_makes 96 = .ok (.iload_n 1, 1) := by decide +kernel
theorem dX5_makes_97 : decode cX5_makes 97 = .ok (.i2l, 1) := by decide +kernel
theorem dX5_makes_98 : decode cX5_makes 98 = .ok (.ladd, 1) := by decide +kernel
theorem dX5_makes_99 : decode cX5_makes 99 = .ok (.putfield 124, 3) := by decide +kernel
theorem dX5_makes_102 : decode cX5_makes 102 = .ok (.iload_n 1, 1) := by decide +kernel
theorem dX5_makes_103 : decode cX5_makes 103 = .ok (.iconst 2, 1) := by decide +kernel
theorem dX5_makes_104 : decode cX5_makes 104 = .ok (.idiv, 1) := by decide +kernel
theorem dX5_makes_105 : decode cX5_makes 105 = .ok (.istore 5, 2) := by decide +kernel
theorem dX5_makes_107 : decode cX5_makes 107 = .ok (.iload 5, 2) := by decide +kernel
theorem dX5_makes_109 : decode cX5_makes 109 = .ok (.aload_n 0, 1) := by decide +kernel
theorem dX5_makes_110 : decode cX5_makes 110 = .ok (.getfield 39, 3) := by decide +kernel
theorem dX5_makes_113 : decode cX5_makes 113 = .ok (.if_icmp .ge 8, 3) := by decide +kernel
theorem dX5_makes_116 : decode cX5_makes 116 = .ok (.iload 5, 2) := by decide +kernel
theorem dX5_makes_118 : decode cX5_makes 118 = .ok (.goto 7, 3) := by decide +kernel
theorem dX5_makes_121 : decode cX5_makes 121 = .ok (.aload_n 0, 1) := by decide +kernel
theorem dX5_makes_122 : decode cX5_makes 122 = .ok (.getfield 39, 3) := by decide +kernel
theorem dX5_makes_125 : decode cX5_makes 125 = .ok (.istore 6, 2) := by decide +kernel
theorem dX5_makes_127 : decode cX5_makes 127 = .ok (.aload_n 0, 1) := by decide +kernel
theorem dX5_makes_128 : decode cX5_makes 128 = .ok (.dup, 1) := by decide +kernel
theorem dX5_makes_129 : decode cX5_makes 129 = .ok (.getfield 127, 3) := by decide +kernel
theorem dX5_makes_132 : decode cX5_makes 132 = .ok (.iload 6, 2) := by decide +kernel
theorem dX5_makes_134 : decode cX5_makes 134 = .ok (.aload_n 0, 1) := by decide +kernel
theorem dX5_makes_135 : decode cX5_makes 135 = .ok (.getfield 42, 3) := by decide +kernel
theorem dX5_makes_138 : decode cX5_makes 138 = .ok (.imul, 1) := by decide +kernel
theorem dX5_makes_139 : decode cX5_makes 139 = .ok (.iload 5, 2) := by decide +kernel
theorem dX5_makes_141 : decode cX5_makes 141 = .ok (.iload 6, 2) := by decide +kernel
theorem dX5_makes_143 : decode cX5_makes 143 = .ok (.isub, 1) := by decide +kernel
theorem dX5_makes_144 : decode cX5_makes 144 = .ok (.aload_n 0, 1) := by decide +kernel
theorem dX5_makes_145 : decode cX5_makes 145 = .ok (.getfield 45, 3) := by decide +kernel
theorem dX5_makes_148 : decode cX5_makes 148 = .ok (.imul, 1) := by decide +kernel
theorem dX5_makes_149 : decode cX5_makes 149 = .ok (.iadd, 1) := by decide +kernel
theorem dX5_makes_150 : decode cX5_makes 150 = .ok (.i2l, 1) := by decide +kernel
theorem dX5_makes_151 : decode cX5_makes 151 = .ok (.ladd, 1) := by decide +kernel
theorem dX5_makes_152 : decode cX5_makes 152 = .ok (.putfield 127, 3) := by decide +kernel
theorem dX5_makes_155 : decode cX5_makes 155 = .ok (.return_, 1) := by decide +kernel
set_option maxRecDepth 20000 in
theorem ggX5_cuts_X5_looks : GoodIn wsX5_cuts wsX5_looks := goodIn_ca (goodIn_ca (goodIn_r _ [15, 16, 17, 18, 19, 14, 20, 4, 6, 21, 22, 5, 10, 23, 43, 44, 45, 46, 47, 48, 49, 50, 51, 52, 53, 54, 55, 56, 57, 58, 59, 60, 61, 62, 63, 64, 65, 66, 67, 68, 69, 70, 71] (by decide +kernel) (by decide +kernel)) (goodIn_sub (fun _ h => List.mem_cons_of_mem _ (List.mem_append_left _ (List.mem_append_right _ h))) (by decide +kernel))) (goodIn_sub (fun _ h => List.mem_cons_of_mem _ (List.mem_append_right _ h)) (by decide +kernel))
set_option maxRecDepth 20000 in
theorem gX5_cuts_X5_looks : GoodIn wsX5_cuts (wsV RX5 105 RX5 yX5_looks wsX5_looks) := goodIn_app (goodIn_of _ (by decide +kernel)) ggX5_cuts_X5_looks
set_option maxRecDepth 20000 in
theorem ggX5_cuts_X5_massOf : GoodIn wsX5_cuts wsX5_massOf := goodIn_ca (goodIn_r _ [27, 28, 10, 43, 44, 45, 46, 47, 48, 49, 50, 51, 52, 53, 54, 55, 56, 57, 58, 59, 60, 61, 62, 63, 64, 65, 66, 67, 68, 69, 70, 71] (by decide +kernel) (by decide +kernel)) (goodIn_sub (fun _ h => List.mem_cons_of_mem _ (List.mem_append_left _ (List.mem_append_right _ h))) (by decide +kernel))
set_option maxRecDepth 20000 in
theorem gX5_cuts_X5_massOf : GoodIn wsX5_cuts (wsV RX5 91 RX5 yX5_massOf wsX5_massOf) := goodIn_app (goodIn_of _ (by decide +kernel)) ggX5_cuts_X5_massOf
set_option maxRecDepth 20000 in
theorem ggX5_cuts_X5_makes : GoodIn wsX5_cuts wsX5_makes := goodIn_r _ [32, 33, 34, 35, 36, 37, 38, 39, 40, 41, 42, 43, 44, 45, 46, 47, 48, 49, 50, 51, 52, 53, 54, 55, 56, 57, 58, 59, 60, 61, 62, 63, 64, 65, 66, 67, 68, 69, 70, 71] (by decide +kernel) (by decide +kernel)
set_option maxRecDepth 20000 in
theorem gX5_cuts_X5_makes : GoodIn wsX5_cuts (wsV RX5 139 RX5 yX5_makes wsX5_makes) := goodIn_app (goodIn_of _ (by decide +kernel)) ggX5_cuts_X5_makes
theorem dX5_cuts_0 : decode cX5_cuts 0 = .ok (.aload_n 0, 1) := by decide +kernel
theorem dX5_cuts_1 : decode cX5_cuts 1 = .ok (.aload_n 0, 1) := by decide +kernel
theorem dX5_cuts_2 : decode cX5_cuts 2 = .ok (.getfield 17, 3) := by decide +kernel
theorem dX5_cuts_5 : decode cX5_cuts 5 = .ok (.invokevirtual 105, 3) := by decide +kernel
theorem dX5_cuts_8 : decode cX5_cuts 8 = .ok (.istore_n 1, 1) := by decide +kernel
theorem dX5_cuts_9 : decode cX5_cuts 9 = .ok (.iload_n 1, 1) := by decide +kernel
theorem dX5_cuts_10 : decode cX5_cuts 10 = .ok (.ifCond .gt 16, 3) := by decide +kernel
theorem dX5_cuts_13 : decode cX5_cuts 13 = .ok (.aload_n 0, 1) := by decide +kernel
theorem dX5_cuts_14 : decode cX5_cuts 14 = .ok (.getfield 48, 3) := by decide +kernel
theorem dX5_cuts_17 : decode cX5_cuts 17 = .ok (.aload_n 0, 1) := by decide +kernel
theorem dX5_cuts_18 : decode cX5_cuts 18 = .ok (.getfield 130, 3) := by decide +kernel
theorem dX5_cuts_21 : decode cX5_cuts 21 = .ok (.bipush 110, 2) := by decide +kernel
theorem dX5_cuts_23 : decode cX5_cuts 23 = .ok (.castore, 1) := by decide +kernel
theorem dX5_cuts_24 : decode cX5_cuts 24 = .ok (.iconst 0, 1) := by decide +kernel
theorem dX5_cuts_25 : decode cX5_cuts 25 = .ok (.ireturn, 1) := by decide +kernel
theorem dX5_cuts_26 : decode cX5_cuts 26 = .ok (.iconst 0, 1) := by decide +kernel
theorem dX5_cuts_27 : decode cX5_cuts 27 = .ok (.istore_n 2, 1) := by decide +kernel
theorem dX5_cuts_28 : decode cX5_cuts 28 = .ok (.iconst 0, 1) := by decide +kernel
theorem dX5_cuts_29 : decode cX5_cuts 29 = .ok (.istore_n 3, 1) := by decide +kernel
theorem dX5_cuts_30 : decode cX5_cuts 30 = .ok (.iload_n 3, 1) := by decide +kernel
theorem dX5_cuts_31 : decode cX5_cuts 31 = .ok (.aload_n 0, 1) := by decide +kernel
theorem dX5_cuts_32 : decode cX5_cuts 32 = .ok (.getfield 68, 3) := by decide +kernel
theorem dX5_cuts_35 : decode cX5_cuts 35 = .ok (.if_icmp .ge 48, 3) := by decide +kernel
theorem dX5_cuts_38 : decode cX5_cuts 38 = .ok (.aload_n 0, 1) := by decide +kernel
theorem dX5_cuts_39 : decode cX5_cuts 39 = .ok (.getfield 30, 3) := by decide +kernel
theorem dX5_cuts_42 : decode cX5_cuts 42 = .ok (.iload_n 3, 1) := by decide +kernel
theorem dX5_cuts_43 : decode cX5_cuts 43 = .ok (.dup2, 1) := by decide +kernel
theorem dX5_cuts_44 : decode cX5_cuts 44 = .ok (.iaload, 1) := by decide +kernel
theorem dX5_cuts_45 : decode cX5_cuts 45 = .ok (.aload_n 0, 1) := by decide +kernel
theorem dX5_cuts_46 : decode cX5_cuts 46 = .ok (.getfield 55, 3) := by decide +kernel
theorem dX5_cuts_49 : decode cX5_cuts 49 = .ok (.iload_n 3, 1) := by decide +kernel
theorem dX5_cuts_50 : decode cX5_cuts 50 = .ok (.iaload, 1) := by decide +kernel
theorem dX5_cuts_51 : decode cX5_cuts 51 = .ok (.isub, 1) := by decide +kernel
theorem dX5_cuts_52 : decode cX5_cuts 52 = .ok (.iastore, 1) := by decide +kernel
theorem dX5_cuts_53 : decode cX5_cuts 53 = .ok (.aload_n 0, 1) := by decide +kernel
theorem dX5_cuts_54 : decode cX5_cuts 54 = .ok (.getfield 33, 3) := by decide +kernel
theorem dX5_cuts_57 : decode cX5_cuts 57 = .ok (.iload_n 3, 1) := by decide +kernel
theorem dX5_cuts_58 : decode cX5_cuts 58 = .ok (.dup2, 1) := by decide +kernel
theorem dX5_cuts_59 : decode cX5_cuts 59 = .ok (.iaload, 1) := by decide +kernel
theorem dX5_cuts_60 : decode cX5_cuts 60 = .ok (.aload_n 0, 1) := by decide +kernel
theorem dX5_cuts_61 : decode cX5_cuts 61 = .ok (.getfield 55, 3) := by decide +kernel
theorem dX5_cuts_64 : decode cX5_cuts 64 = .ok (.iload_n 3, 1) := by decide +kernel
theorem dX5_cuts_65 : decode cX5_cuts 65 = .ok (.iaload, 1) := by decide +kernel
theorem dX5_cuts_66 : decode cX5_cuts 66 = .ok (.iadd, 1) := by decide +kernel
theorem dX5_cuts_67 : decode cX5_cuts 67 = .ok (.iastore, 1) := by decide +kernel
theorem dX5_cuts_68 : decode cX5_cuts 68 = .ok (.iload_n 2, 1) := by decide +kernel
theorem dX5_cuts_69 : decode cX5_cuts 69 = .ok (.aload_n 0, 1) := by decide +kernel
theorem dX5_cuts_70 : decode cX5_cuts 70 = .ok (.getfield 55, 3) := by decide +kernel
theorem dX5_cuts_73 : decode cX5_cuts 73 = .ok (.iload_n 3, 1) := by decide +kernel
theorem dX5_cuts_74 : decode cX5_cuts 74 = .ok (.iaload, 1) := by decide +kernel
theorem dX5_cuts_75 : decode cX5_cuts 75 = .ok (.iadd, 1) := by decide +kernel
theorem dX5_cuts_76 : decode cX5_cuts 76 = .ok (.istore_n 2, 1) := by decide +kernel
theorem dX5_cuts_77 : decode cX5_cuts 77 = .ok (.iinc 3 1, 3) := by decide +kernel
theorem dX5_cuts_80 : decode cX5_cuts 80 = .ok (.goto (-50), 3) := by decide +kernel
theorem dX5_cuts_83 : decode cX5_cuts 83 = .ok (.aload_n 0, 1) := by decide +kernel
theorem dX5_cuts_84 : decode cX5_cuts 84 = .ok (.getfield 48, 3) := by decide +kernel
theorem dX5_cuts_87 : decode cX5_cuts 87 = .ok (.aload_n 0, 1) := by decide +kernel
theorem dX5_cuts_88 : decode cX5_cuts 88 = .ok (.getfield 130, 3) := by decide +kernel
theorem dX5_cuts_91 : decode cX5_cuts 91 = .ok (.bipush 112, 2) := by decide +kernel
theorem dX5_cuts_93 : decode cX5_cuts 93 = .ok (.castore, 1) := by decide +kernel
theorem dX5_cuts_94 : decode cX5_cuts 94 = .ok (.aload_n 0, 1) := by decide +kernel
theorem dX5_cuts_95 : decode cX5_cuts 95 = .ok (.dup, 1) := by decide +kernel
theorem dX5_cuts_96 : decode cX5_cuts 96 = .ok (.getfield 133, 3) := by decide +kernel
theorem dX5_cuts_99 : decode cX5_cuts 99 = .ok (.iconst 1, 1) := by decide +kernel
theorem dX5_cuts_100 : decode cX5_cuts 100 = .ok (.iadd, 1) := by decide +kernel
theorem dX5_cuts_101 : decode cX5_cuts 101 = .ok (.putfield 133, 3) := by decide +kernel
theorem dX5_cuts_104 : decode cX5_cuts 104 = .ok (.aload_n 0, 1) := by decide +kernel
theorem dX5_cuts_105 : decode cX5_cuts 105 = .ok (.dup, 1) := by decide +kernel
theorem dX5_cuts_106 : decode cX5_cuts 106 = .ok (.getfield 136, 3) := by decide +kernel
theorem dX5_cuts_109 : decode cX5_cuts 109 = .ok (.aload_n 0, 1) := by decide +kernel
theorem dX5_cuts_110 : decode cX5_cuts 110 = .ok (.getfield 13, 3) := by decide +kernel
theorem dX5_cuts_113 : decode cX5_cuts 113 = .ok (.iload_n 1, 1) := by decide +kernel
theorem dX5_cuts_114 : decode cX5_cuts 114 = .ok (.isub, 1) := by decide +kernel
theorem dX5_cuts_115 : decode cX5_cuts 115 = .ok (.iadd, 1) := by decide +kernel
theorem dX5_cuts_116 : decode cX5_cuts 116 = .ok (.putfield 136, 3) := by decide +kernel
theorem dX5_cuts_119 : decode cX5_cuts 119 = .ok (.aload_n 0, 1) := by decide +kernel
theorem dX5_cuts_120 : decode cX5_cuts 120 = .ok (.aload_n 0, 1) := by decide +kernel
theorem dX5_cuts_121 : decode cX5_cuts 121 = .ok (.aload_n 0, 1) := by decide +kernel
theorem dX5_cuts_122 : decode cX5_cuts 122 = .ok (.getfield 17, 3) := by decide +kernel
theorem dX5_cuts_125 : decode cX5_cuts 125 = .ok (.invokevirtual 91, 3) := by decide +kernel
theorem dX5_cuts_128 : decode cX5_cuts 128 = .ok (.aload_n 0, 1) := by decide +kernel
theorem dX5_cuts_129 : decode cX5_cuts 129 = .ok (.aload_n 0, 1) := by decide +kernel
theorem dX5_cuts_130 : decode cX5_cuts 130 = .ok (.getfield 17, 3) := by decide +kernel
theorem dX5_cuts_133 : decode cX5_cuts 133 = .ok (.invokevirtual 91, 3) := by decide +kernel
theorem dX5_cuts_136 : decode cX5_cuts 136 = .ok (.aload_n 0, 1) := by decide +kernel
theorem dX5_cuts_137 : decode cX5_cuts 137 = .ok (.getfield 13, 3) := by decide +kernel
theorem dX5_cuts_140 : decode cX5_cuts 140 = .ok (.iload_n 1, 1) := by decide +kernel
theorem dX5_cuts_141 : decode cX5_cuts 141 = .ok (.isub, 1) := by decide +kernel
theorem dX5_cuts_142 : decode cX5_cuts 142 = .ok (.imul, 1) := by decide +kernel
theorem dX5_cuts_143 : decode cX5_cuts 143 = .ok (.aload_n 0, 1) := by decide +kernel
theorem dX5_cuts_144 : decode cX5_cuts 144 = .ok (.getfield 13, 3) := by decide +kernel
theorem dX5_cuts_147 : decode cX5_cuts 147 = .ok (.idiv, 1) := by decide +kernel
theorem dX5_cuts_148 : decode cX5_cuts 148 = .ok (.invokevirtual 139, 3) := by decide +kernel
theorem dX5_cuts_151 : decode cX5_cuts 151 = .ok (.iload_n 2, 1) := by decide +kernel
theorem dX5_cuts_152 : decode cX5_cuts 152 = .ok (.ireturn, 1) := by decide +kernel
set_option maxRecDepth 20000 in
theorem ggX5_passesOne_X5_massOf : GoodIn wsX5_passesOne wsX5_massOf := goodIn_ca (goodIn_r _ [9, 10, 11, 48, 49, 50, 51, 52, 53, 54, 55, 56, 57, 58, 59, 60, 61, 62, 63, 64, 65, 66, 67, 68, 69, 70, 71, 72, 73, 74, 75, 76] (by decide +kernel) (by decide +kernel)) (goodIn_sub (fun _ h => List.mem_cons_of_mem _ (List.mem_append_left _ (List.mem_append_right _ h))) (by decide +kernel))
set_option maxRecDepth 20000 in
theorem gX5_passesOne_X5_massOf : GoodIn wsX5_passesOne (wsV RX5 91 RX5 yX5_massOf wsX5_massOf) := goodIn_app (goodIn_of _ (by decide +kernel)) ggX5_passesOne_X5_massOf
set_option maxRecDepth 20000 in
theorem ggX5_passesOne_X5_makes : GoodIn wsX5_passesOne wsX5_makes := goodIn_r _ [15, 16, 17, 18, 19, 20, 21, 22, 23, 24, 25, 48, 49, 50, 51, 52, 53, 54, 55, 56, 57, 58, 59, 60, 61, 62, 63, 64, 65, 66, 67, 68, 69, 70, 71, 72, 73, 74, 75, 76] (by decide +kernel) (by decide +kernel)
set_option maxRecDepth 20000 in
theorem gX5_passesOne_X5_makes : GoodIn wsX5_passesOne (wsV RX5 139 RX5 yX5_makes wsX5_makes) := goodIn_app (goodIn_of _ (by decide +kernel)) ggX5_passesOne_X5_makes
set_option maxRecDepth 20000 in
theorem ggX5_passesOne_X5_cuts : GoodIn wsX5_passesOne wsX5_cuts := goodIn_ca (goodIn_ca (goodIn_r _ [29, 1, 2, 3, 30, 31, 32, 33, 34, 35, 11, 36, 37, 38, 8, 39, 40, 41, 42, 43, 44, 45, 46, 47, 5, 6, 7, 9, 10, 12, 13, 14, 15, 16, 17, 18, 19, 20, 21, 22, 23, 24, 25, 48, 49, 50, 51, 52, 53, 54, 55, 56, 57, 58, 59, 60, 61, 62, 63, 64, 65, 66, 67, 68, 69, 70, 71, 72, 73, 74, 75, 76] (by decide +kernel) (by decide +kernel)) (goodIn_sub (fun _ h => List.mem_cons_of_mem _ (List.mem_append_left _ (List.mem_append_right _ h))) (by decide +kernel))) (goodIn_sub (fun _ h => List.mem_cons_of_mem _ (List.mem_append_right _ h)) (by decide +kernel))
set_option maxRecDepth 20000 in
theorem gX5_passesOne_X5_cuts : GoodIn wsX5_passesOne (wsV RX5 143 RX5 yX5_cuts wsX5_cuts) := goodIn_app (goodIn_of _ (by decide +kernel)) ggX5_passesOne_X5_cuts
theorem dX5_passesOne_0 : decode cX5_passesOne 0 = .ok (.iconst 0, 1) := by decide +kernel
theorem dX5_passesOne_1 : decode cX5_passesOne 1 = .ok (.istore_n 1, 1) := by decide +kernel
theorem dX5_passesOne_2 : decode cX5_passesOne 2 = .ok (.aload_n 0, 1) := by decide +kernel
theorem dX5_passesOne_3 : decode cX5_passesOne 3 = .ok (.getfield 17, 3) := by decide +kernel
theorem dX5_passesOne_6 : decode cX5_passesOne 6 = .ok (.iconst (-1), 1) := by decide +kernel
theorem dX5_passesOne_7 : decode cX5_passesOne 7 = .ok (.if_icmp .ne 17, 3) := by decide +kernel
theorem dX5_passesOne_10 : decode cX5_passesOne 10 = .ok (.aload_n 0, 1) := by decide +kernel
theorem dX5_passesOne_11 : decode cX5_passesOne 11 = .ok (.getfield 48, 3) := by decide +kernel
theorem dX5_passesOne_14 : decode cX5_passesOne 14 = .ok (.aload_n 0, 1) := by decide +kernel
theorem dX5_passesOne_15 : decode cX5_passesOne 15 = .ok (.getfield 130, 3) := by decide +kernel
theorem dX5_passesOne_18 : decode cX5_passesOne 18 = .ok (.bipush 110, 2) := by decide +kernel
theorem dX5_passesOne_20 : decode cX5_passesOne 20 = .ok (.castore, 1) := by decide +kernel
theorem dX5_passesOne_21 : decode cX5_passesOne 21 = .ok (.goto 59, 3) := by decide +kernel
theorem dX5_passesOne_24 : decode cX5_passesOne 24 = .ok (.aload_n 0, 1) := by decide +kernel
theorem dX5_passesOne_25 : decode cX5_passesOne 25 = .ok (.getfield 81, 3) := by decide +kernel
theorem dX5_passesOne_28 : decode cX5_passesOne 28 = .ok (.ifCond .le 47, 3) := by decide +kernel
theorem dX5_passesOne_31 : decode cX5_passesOne 31 = .ok (.aload_n 0, 1) := by decide +kernel
theorem dX5_passesOne_32 : decode cX5_passesOne 32 = .ok (.getfield 48, 3) := by decide +kernel
theorem dX5_passesOne_35 : decode cX5_passesOne 35 = .ok (.aload_n 0, 1) := by decide +kernel
theorem dX5_passesOne_36 : decode cX5_passesOne 36 = .ok (.getfield 130, 3) := by decide +kernel
theorem dX5_passesOne_39 : decode cX5_passesOne 39 = .ok (.bipush 99, 2) := by decide +kernel
theorem dX5_passesOne_41 : decode cX5_passesOne 41 = .ok (.castore, 1) := by decide +kernel
theorem dX5_passesOne_42 : decode cX5_passesOne 42 = .ok (.aload_n 0, 1) := by decide +kernel
theorem dX5_passesOne_43 : decode cX5_passesOne 43 = .ok (.aload_n 0, 1) := by decide +kernel
theorem dX5_passesOne_44 : decode cX5_passesOne 44 = .ok (.aload_n 0, 1) := by decide +kernel
theorem dX5_passesOne_45 : decode cX5_passesOne 45 = .ok (.getfield 17, 3) := by decide +kernel
theorem dX5_passesOne_48 : decode cX5_passesOne 48 = .ok (.invokevirtual 91, 3) := by decide +kernel
theorem dX5_passesOne_51 : decode cX5_passesOne 51 = .ok (.aload_n 0, 1) := by decide +kernel
theorem dX5_passesOne_52 : decode cX5_passesOne 52 = .ok (.aload_n 0, 1) := by decide +kernel
theorem dX5_passesOne_53 : decode cX5_passesOne 53 = .ok (.getfield 17, 3) := by decide +kernel
theorem dX5_passesOne_56 : decode cX5_passesOne 56 = .ok (.invokevirtual 91, 3) := by decide +kernel
theorem dX5_passesOne_59 : decode cX5_passesOne 59 = .ok (.invokevirtual 139, 3) := by decide +kernel
theorem dX5_passesOne_62 : decode cX5_passesOne 62 = .ok (.aload_n 0, 1) := by decide +kernel
theorem dX5_passesOne_63 : decode cX5_passesOne 63 = .ok (.dup, 1) := by decide +kernel
theorem dX5_passesOne_64 : decode cX5_passesOne 64 = .ok (.getfield 81, 3) := by decide +kernel
theorem dX5_passesOne_67 : decode cX5_passesOne 67 = .ok (.iconst 1, 1) := by decide +kernel
theorem dX5_passesOne_68 : decode cX5_passesOne 68 = .ok (.isub, 1) := by decide +kernel
theorem dX5_passesOne_69 : decode cX5_passesOne 69 = .ok (.putfield 81, 3) := by decide +kernel
theorem dX5_passesOne_72 : decode cX5_passesOne 72 = .ok (.goto 8, 3) := by decide +kernel
theorem dX5_passesOne_75 : decode cX5_passesOne 75 = .ok (.aload_n 0, 1) := by decide +kernel
theorem dX5_passesOne_76 : decode cX5_passesOne 76 = .ok (.invokevirtual 143, 3) := by decide +kernel
theorem dX5_passesOne_79 : decode cX5_passesOne 79 = .ok (.istore_n 1, 1) := by decide +kernel
theorem dX5_passesOne_80 : decode cX5_passesOne 80 = .ok (.aload_n 0, 1) := by decide +kernel
theorem dX5_passesOne_81 : decode cX5_passesOne 81 = .ok (.dup, 1) := by decide +kernel
theorem dX5_passesOne_82 : decode cX5_passesOne 82 = .ok (.getfield 130, 3) := by decide +kernel
theorem dX5_passesOne_85 : decode cX5_passesOne 85 = .ok (.iconst 1, 1) := by decide +kernel
theorem dX5_passesOne_86 : decode cX5_passesOne 86 = .ok (.iadd, 1) := by decide +kernel
theorem dX5_passesOne_87 : decode cX5_passesOne 87 = .ok (.putfield 130, 3) := by decide +kernel
theorem dX5_passesOne_90 : decode cX5_passesOne 90 = .ok (.iload_n 1, 1) := by decide +kernel
theorem dX5_passesOne_91 : decode cX5_passesOne 91 = .ok (.ireturn, 1) := by decide +kernel
set_option maxRecDepth 20000 in
theorem ggX5_pass_X5_in : GoodIn wsX5_pass wsX5_in := goodIn_r _ [5] (by decide +kernel) (by decide +kernel)
set_option maxRecDepth 20000 in
theorem gX5_pass_X5_in : GoodIn wsX5_pass (va_wsS RX5 64 yX5_in wsX5_in) := goodIn_app (goodIn_of _ (by decide +kernel)) ggX5_pass_X5_in
set_option maxRecDepth 20000 in
theorem ggX5_pass_X5_goesOn : GoodIn wsX5_pass wsX5_goesOn := goodIn_r _ [9, 10, 60, 61, 62, 63, 64, 65, 66, 67, 68, 69, 70, 71, 72, 73, 74, 75, 76, 77, 78, 79, 80, 81, 82, 83, 84, 85, 86, 87, 88] (by decide +kernel) (by decide +kernel)
set_option maxRecDepth 20000 in
theorem gX5_pass_X5_goesOn : GoodIn wsX5_pass (wsV RX5 75 RX5 yX5_goesOn wsX5_goesOn) := goodIn_app (goodIn_of _ (by decide +kernel)) ggX5_pass_X5_goesOn
set_option maxRecDepth 20000 in
theorem ggX5_pass_X5_passesOne : GoodIn wsX5_pass wsX5_passesOne := goodIn_ca (goodIn_ca (goodIn_r _ [14, 15, 16, 1, 17, 18, 19, 20, 4, 21, 22, 23, 24, 25, 26, 27, 28, 29, 30, 31, 32, 33, 34, 35, 36, 37, 38, 39, 40, 41, 42, 43, 44, 45, 46, 47, 48, 49, 50, 51, 52, 53, 54, 55, 56, 57, 58, 59, 60, 61, 62, 63, 64, 65, 66, 67, 68, 69, 70, 71, 72, 73, 74, 75, 76, 77, 78, 79, 80, 81, 82, 83, 84, 85, 86, 87, 88] (by decide +kernel) (by decide +kernel)) (goodIn_sub (fun _ h => List.mem_cons_of_mem _ (List.mem_append_left _ (List.mem_append_right _ h))) (by decide +kernel))) (goodIn_sub (fun _ h => List.mem_cons_of_mem _ (List.mem_append_right _ h)) (by decide +kernel))
set_option maxRecDepth 20000 in
theorem gX5_pass_X5_passesOne : GoodIn wsX5_pass (wsV RX5 147 RX5 yX5_passesOne wsX5_passesOne) := goodIn_app (goodIn_of _ (by decide +kernel)) ggX5_pass_X5_passesOne
theorem dX5_pass_0 : decode cX5_pass 0 = .ok (.aload_n 0, 1) := by decide +kernel
theorem dX5_pass_1 : decode cX5_pass 1 = .ok (.iload_n 1, 1) := by decide +kernel
theorem dX5_pass_2 : decode cX5_pass 2 = .ok (.iconst 1, 1) := by decide +kernel
theorem dX5_pass_3 : decode cX5_pass 3 = .ok (.bipush 48, 2) := by decide +kernel
theorem dX5_pass_5 : decode cX5_pass 5 = .ok (.invokestatic 64, 3) := by decide +kernel
theorem dX5_pass_8 : decode cX5_pass 8 = .ok (.ifCond .ne 7, 3) := by decide +kernel
theorem dX5_pass_11 : decode cX5_pass 11 = .ok (.iconst 1, 1) := by decide +kernel
theorem dX5_pass_12 : decode cX5_pass 12 = .ok (.goto 20, 3) := by decide +kernel
theorem dX5_pass_15 : decode cX5_pass 15 = .ok (.aload_n 0, 1) := by decide +kernel
theorem dX5_pass_16 : decode cX5_pass 16 = .ok (.getfield 130, 3) := by decide +kernel
theorem dX5_pass_19 : decode cX5_pass 19 = .ok (.iload_n 1, 1) := by decide +kernel
theorem dX5_pass_20 : decode cX5_pass 20 = .ok (.iadd, 1) := by decide +kernel
theorem dX5_pass_21 : decode cX5_pass 21 = .ok (.sipush 400, 3) := by decide +kernel
theorem dX5_pass_24 : decode cX5_pass 24 = .ok (.if_icmp .le 7, 3) := by decide +kernel
theorem dX5_pass_27 : decode cX5_pass 27 = .ok (.iconst 2, 1) := by decide +kernel
theorem dX5_pass_28 : decode cX5_pass 28 = .ok (.goto 4, 3) := by decide +kernel
theorem dX5_pass_31 : decode cX5_pass 31 = .ok (.iconst 0, 1) := by decide +kernel
theorem dX5_pass_32 : decode cX5_pass 32 = .ok (.invokevirtual 75, 3) := by decide +kernel
theorem dX5_pass_35 : decode cX5_pass 35 = .ok (.ifCond .ne 5, 3) := by decide +kernel
theorem dX5_pass_38 : decode cX5_pass 38 = .ok (.iconst 0, 1) := by decide +kernel
theorem dX5_pass_39 : decode cX5_pass 39 = .ok (.ireturn, 1) := by decide +kernel
theorem dX5_pass_40 : decode cX5_pass 40 = .ok (.iconst 0, 1) := by decide +kernel
theorem dX5_pass_41 : decode cX5_pass 41 = .ok (.istore_n 2, 1) := by decide +kernel
theorem dX5_pass_42 : decode cX5_pass 42 = .ok (.iconst 0, 1) := by decide +kernel
theorem dX5_pass_43 : decode cX5_pass 43 = .ok (.istore_n 3, 1) := by decide +kernel
theorem dX5_pass_44 : decode cX5_pass 44 = .ok (.iload_n 3, 1) := by decide +kernel
theorem dX5_pass_45 : decode cX5_pass 45 = .ok (.iload_n 1, 1) := by decide +kernel
end
section
theorem dX5_pass_46 : decode cX5_pass 46 = .ok (.if_icmp .ge 16, 3) := by decide +kernel
theorem dX5_pass_49 : decode cX5_pass 49 = .ok (.iload_n 2, 1) := by decide +kernel
theorem dX5_pass_50 : decode cX5_pass 50 = .ok (.aload_n 0, 1) := by decide +kernel
theorem dX5_pass_51 : decode cX5_pass 51 = .ok (.invokevirtual 147, 3) := by decide +kernel
theorem dX5_pass_54 : decode cX5_pass 54 = .ok (.iadd, 1) := by decide +kernel
theorem dX5_pass_55 : decode cX5_pass 55 = .ok (.istore_n 2, 1) := by decide +kernel
theorem dX5_pass_56 : decode cX5_pass 56 = .ok (.iinc 3 1, 3) := by decide +kernel
theorem dX5_pass_59 : decode cX5_pass 59 = .ok (.goto (-15), 3) := by decide +kernel
theorem dX5_pass_62 : decode cX5_pass 62 = .ok (.iload_n 2, 1) := by decide +kernel
theorem dX5_pass_63 : decode cX5_pass 63 = .ok (.ireturn, 1) := by decide +kernel
theorem dX5_hours_0 : decode cX5_hours 0 = .ok (.aload_n 0, 1) := by decide +kernel
theorem dX5_hours_1 : decode cX5_hours 1 = .ok (.iconst 0, 1) := by decide +kernel
theorem dX5_hours_2 : decode cX5_hours 2 = .ok (.putfield 58, 3) := by decide +kernel
theorem dX5_hours_5 : decode cX5_hours 5 = .ok (.aload_n 0, 1) := by decide +kernel
theorem dX5_hours_6 : decode cX5_hours 6 = .ok (.getfield 130, 3) := by decide +kernel
theorem dX5_hours_9 : decode cX5_hours 9 = .ok (.ireturn, 1) := by decide +kernel
theorem dX5_broke_0 : decode cX5_broke 0 = .ok (.aload_n 0, 1) := by decide +kernel
theorem dX5_broke_1 : decode cX5_broke 1 = .ok (.iconst 0, 1) := by decide +kernel
theorem dX5_broke_2 : decode cX5_broke 2 = .ok (.putfield 58, 3) := by decide +kernel
theorem dX5_broke_5 : decode cX5_broke 5 = .ok (.aload_n 0, 1) := by decide +kernel
theorem dX5_broke_6 : decode cX5_broke 6 = .ok (.getfield 111, 3) := by decide +kernel
theorem dX5_broke_9 : decode cX5_broke 9 = .ok (.ireturn, 1) := by decide +kernel
theorem dX5_brokeByHours_0 : decode cX5_brokeByHours 0 = .ok (.aload_n 0, 1) := by decide +kernel
theorem dX5_brokeByHours_1 : decode cX5_brokeByHours 1 = .ok (.iconst 0, 1) := by decide +kernel
theorem dX5_brokeByHours_2 : decode cX5_brokeByHours 2 = .ok (.putfield 58, 3) := by decide +kernel
theorem dX5_brokeByHours_5 : decode cX5_brokeByHours 5 = .ok (.aload_n 0, 1) := by decide +kernel
theorem dX5_brokeByHours_6 : decode cX5_brokeByHours 6 = .ok (.getfield 111, 3) := by decide +kernel
theorem dX5_brokeByHours_9 : decode cX5_brokeByHours 9 = .ok (.ireturn, 1) := by decide +kernel
theorem dX5_fresh_0 : decode cX5_fresh 0 = .ok (.aload_n 0, 1) := by decide +kernel
theorem dX5_fresh_1 : decode cX5_fresh 1 = .ok (.iconst 0, 1) := by decide +kernel
theorem dX5_fresh_2 : decode cX5_fresh 2 = .ok (.putfield 58, 3) := by decide +kernel
theorem dX5_fresh_5 : decode cX5_fresh 5 = .ok (.aload_n 0, 1) := by decide +kernel
theorem dX5_fresh_6 : decode cX5_fresh 6 = .ok (.getfield 114, 3) := by decide +kernel
theorem dX5_fresh_9 : decode cX5_fresh 9 = .ok (.lreturn, 1) := by decide +kernel
theorem dX5_paper_0 : decode cX5_paper 0 = .ok (.aload_n 0, 1) := by decide +kernel
theorem dX5_paper_1 : decode cX5_paper 1 = .ok (.iconst 0, 1) := by decide +kernel
theorem dX5_paper_2 : decode cX5_paper 2 = .ok (.putfield 58, 3) := by decide +kernel
theorem dX5_paper_5 : decode cX5_paper 5 = .ok (.aload_n 0, 1) := by decide +kernel
theorem dX5_paper_6 : decode cX5_paper 6 = .ok (.getfield 118, 3) := by decide +kernel
theorem dX5_paper_9 : decode cX5_paper 9 = .ok (.lreturn, 1) := by decide +kernel
theorem dX5_lost_0 : decode cX5_lost 0 = .ok (.aload_n 0, 1) := by decide +kernel
theorem dX5_lost_1 : decode cX5_lost 1 = .ok (.iconst 0, 1) := by decide +kernel
theorem dX5_lost_2 : decode cX5_lost 2 = .ok (.putfield 58, 3) := by decide +kernel
theorem dX5_lost_5 : decode cX5_lost 5 = .ok (.aload_n 0, 1) := by decide +kernel
theorem dX5_lost_6 : decode cX5_lost 6 = .ok (.getfield 121, 3) := by decide +kernel
theorem dX5_lost_9 : decode cX5_lost 9 = .ok (.lreturn, 1) := by decide +kernel
set_option maxRecDepth 20000 in
theorem ggX5_made_X5_in : GoodIn wsX5_made wsX5_in := goodIn_r _ [6] (by decide +kernel) (by decide +kernel)
set_option maxRecDepth 20000 in
theorem gX5_made_X5_in : GoodIn wsX5_made (va_wsS RX5 64 yX5_in wsX5_in) := goodIn_app (goodIn_of _ (by decide +kernel)) ggX5_made_X5_in
set_option maxRecDepth 20000 in
theorem ggX5_made_X5_goesOn : GoodIn wsX5_made wsX5_goesOn := goodIn_r _ [10, 11, 12, 13, 14, 15, 16, 17, 18, 19, 20, 21, 22, 23, 24, 25, 26, 27, 28, 29, 30, 31, 32, 33, 34, 35, 36, 37, 38, 39, 40] (by decide +kernel) (by decide +kernel)
set_option maxRecDepth 20000 in
theorem gX5_made_X5_goesOn : GoodIn wsX5_made (wsV RX5 75 RX5 yX5_goesOn wsX5_goesOn) := goodIn_app (goodIn_of _ (by decide +kernel)) ggX5_made_X5_goesOn
theorem dX5_made_0 : decode cX5_made 0 = .ok (.aload_n 0, 1) := by decide +kernel
theorem dX5_made_1 : decode cX5_made 1 = .ok (.iload_n 1, 1) := by decide +kernel
theorem dX5_made_2 : decode cX5_made 2 = .ok (.iconst 0, 1) := by decide +kernel
theorem dX5_made_3 : decode cX5_made 3 = .ok (.aload_n 0, 1) := by decide +kernel
theorem dX5_made_4 : decode cX5_made 4 = .ok (.getfield 130, 3) := by decide +kernel
theorem dX5_made_7 : decode cX5_made 7 = .ok (.iconst 1, 1) := by decide +kernel
theorem dX5_made_8 : decode cX5_made 8 = .ok (.isub, 1) := by decide +kernel
theorem dX5_made_9 : decode cX5_made 9 = .ok (.invokestatic 64, 3) := by decide +kernel
theorem dX5_made_12 : decode cX5_made 12 = .ok (.ifCond .eq 7, 3) := by decide +kernel
theorem dX5_made_15 : decode cX5_made 15 = .ok (.iconst 0, 1) := by decide +kernel
theorem dX5_made_16 : decode cX5_made 16 = .ok (.goto 4, 3) := by decide +kernel
theorem dX5_made_19 : decode cX5_made 19 = .ok (.iconst 1, 1) := by decide +kernel
theorem dX5_made_20 : decode cX5_made 20 = .ok (.invokevirtual 75, 3) := by decide +kernel
theorem dX5_made_23 : decode cX5_made 23 = .ok (.ifCond .eq 12, 3) := by decide +kernel
theorem dX5_made_26 : decode cX5_made 26 = .ok (.aload_n 0, 1) := by decide +kernel
theorem dX5_made_27 : decode cX5_made 27 = .ok (.getfield 48, 3) := by decide +kernel
theorem dX5_made_30 : decode cX5_made 30 = .ok (.iload_n 1, 1) := by decide +kernel
theorem dX5_made_31 : decode cX5_made 31 = .ok (.caload, 1) := by decide +kernel
theorem dX5_made_32 : decode cX5_made 32 = .ok (.goto 4, 3) := by decide +kernel
theorem dX5_made_35 : decode cX5_made 35 = .ok (.iconst 0, 1) := by decide +kernel
theorem dX5_made_36 : decode cX5_made 36 = .ok (.ireturn, 1) := by decide +kernel
theorem dX5_steamCost_0 : decode cX5_steamCost 0 = .ok (.aload_n 0, 1) := by decide +kernel
theorem dX5_steamCost_1 : decode cX5_steamCost 1 = .ok (.iconst 0, 1) := by decide +kernel
theorem dX5_steamCost_2 : decode cX5_steamCost 2 = .ok (.putfield 58, 3) := by decide +kernel
theorem dX5_steamCost_5 : decode cX5_steamCost 5 = .ok (.aload_n 0, 1) := by decide +kernel
theorem dX5_steamCost_6 : decode cX5_steamCost 6 = .ok (.getfield 127, 3) := by decide +kernel
theorem dX5_steamCost_9 : decode cX5_steamCost 9 = .ok (.lreturn, 1) := by decide +kernel
set_option maxRecDepth 20000 in
theorem ggX5_paperShare_X5_goesOn : GoodIn wsX5_paperShare wsX5_goesOn := goodIn_r _ [7, 8, 9, 10, 11, 12, 13, 14, 15, 16, 17, 18, 19, 20, 21, 22, 23, 24, 25, 26, 27, 28, 29, 30, 31, 32, 33, 34, 35, 36, 37] (by decide +kernel) (by decide +kernel)
set_option maxRecDepth 20000 in
theorem gX5_paperShare_X5_goesOn : GoodIn wsX5_paperShare (wsV RX5 75 RX5 yX5_goesOn wsX5_goesOn) := goodIn_app (goodIn_of _ (by decide +kernel)) ggX5_paperShare_X5_goesOn
theorem dX5_paperShare_0 : decode cX5_paperShare 0 = .ok (.aload_n 0, 1) := by decide +kernel
theorem dX5_paperShare_1 : decode cX5_paperShare 1 = .ok (.aload_n 0, 1) := by decide +kernel
theorem dX5_paperShare_2 : decode cX5_paperShare 2 = .ok (.getfield 124, 3) := by decide +kernel
theorem dX5_paperShare_5 : decode cX5_paperShare 5 = .ok (.lconst 0, 1) := by decide +kernel
theorem dX5_paperShare_6 : decode cX5_paperShare 6 = .ok (.lcmp, 1) := by decide +kernel
theorem dX5_paperShare_7 : decode cX5_paperShare 7 = .ok (.ifCond .ne 7, 3) := by decide +kernel
theorem dX5_paperShare_10 : decode cX5_paperShare 10 = .ok (.iconst 1, 1) := by decide +kernel
theorem dX5_paperShare_11 : decode cX5_paperShare 11 = .ok (.goto 4, 3) := by decide +kernel
theorem dX5_paperShare_14 : decode cX5_paperShare 14 = .ok (.iconst 0, 1) := by decide +kernel
theorem dX5_paperShare_15 : decode cX5_paperShare 15 = .ok (.invokevirtual 75, 3) := by decide +kernel
theorem dX5_paperShare_18 : decode cX5_paperShare 18 = .ok (.ifCond .eq 17, 3) := by decide +kernel
theorem dX5_paperShare_21 : decode cX5_paperShare 21 = .ok (.aload_n 0, 1) := by decide +kernel
theorem dX5_paperShare_22 : decode cX5_paperShare 22 = .ok (.getfield 118, 3) := by decide +kernel
theorem dX5_paperShare_25 : decode cX5_paperShare 25 = .ok (.l2f, 1) := by decide +kernel
theorem dX5_paperShare_26 : decode cX5_paperShare 26 = .ok (.aload_n 0, 1) := by decide +kernel
theorem dX5_paperShare_27 : decode cX5_paperShare 27 = .ok (.getfield 124, 3) := by decide +kernel
theorem dX5_paperShare_30 : decode cX5_paperShare 30 = .ok (.l2f, 1) := by decide +kernel
theorem dX5_paperShare_31 : decode cX5_paperShare 31 = .ok (.fdiv, 1) := by decide +kernel
theorem dX5_paperShare_32 : decode cX5_paperShare 32 = .ok (.goto 4, 3) := by decide +kernel
theorem dX5_paperShare_35 : decode cX5_paperShare 35 = .ok (.fconst 0, 1) := by decide +kernel
theorem dX5_paperShare_36 : decode cX5_paperShare 36 = .ok (.freturn, 1) := by decide +kernel
set_option maxRecDepth 20000 in
theorem ggX5_meanTrim_X5_goesOn : GoodIn wsX5_meanTrim wsX5_goesOn := goodIn_r _ [7, 8, 9, 10, 11, 12, 13, 14, 15, 16, 17, 18, 19, 20, 21, 22, 23, 24, 25, 26, 27, 28, 29, 30, 31, 32, 33, 34, 35, 36, 37] (by decide +kernel) (by decide +kernel)
set_option maxRecDepth 20000 in
theorem gX5_meanTrim_X5_goesOn : GoodIn wsX5_meanTrim (wsV RX5 75 RX5 yX5_goesOn wsX5_goesOn) := goodIn_app (goodIn_of _ (by decide +kernel)) ggX5_meanTrim_X5_goesOn
theorem dX5_meanTrim_0 : decode cX5_meanTrim 0 = .ok (.aload_n 0, 1) := by decide +kernel
theorem dX5_meanTrim_1 : decode cX5_meanTrim 1 = .ok (.aload_n 0, 1) := by decide +kernel
theorem dX5_meanTrim_2 : decode cX5_meanTrim 2 = .ok (.getfield 133, 3) := by decide +kernel
theorem dX5_meanTrim_5 : decode cX5_meanTrim 5 = .ok (.ifCond .ne 7, 3) := by decide +kernel
theorem dX5_meanTrim_8 : decode cX5_meanTrim 8 = .ok (.iconst 1, 1) := by decide +kernel
theorem dX5_meanTrim_9 : decode cX5_meanTrim 9 = .ok (.goto 4, 3) := by decide +kernel
theorem dX5_meanTrim_12 : decode cX5_meanTrim 12 = .ok (.iconst 0, 1) := by decide +kernel
theorem dX5_meanTrim_13 : decode cX5_meanTrim 13 = .ok (.invokevirtual 75, 3) := by decide +kernel
theorem dX5_meanTrim_16 : decode cX5_meanTrim 16 = .ok (.ifCond .eq 17, 3) := by decide +kernel
theorem dX5_meanTrim_19 : decode cX5_meanTrim 19 = .ok (.aload_n 0, 1) := by decide +kernel
theorem dX5_meanTrim_20 : decode cX5_meanTrim 20 = .ok (.getfield 136, 3) := by decide +kernel
theorem dX5_meanTrim_23 : decode cX5_meanTrim 23 = .ok (.i2d, 1) := by decide +kernel
theorem dX5_meanTrim_24 : decode cX5_meanTrim 24 = .ok (.aload_n 0, 1) := by decide +kernel
theorem dX5_meanTrim_25 : decode cX5_meanTrim 25 = .ok (.getfield 133, 3) := by decide +kernel
theorem dX5_meanTrim_28 : decode cX5_meanTrim 28 = .ok (.i2d, 1) := by decide +kernel
theorem dX5_meanTrim_29 : decode cX5_meanTrim 29 = .ok (.ddiv, 1) := by decide +kernel
theorem dX5_meanTrim_30 : decode cX5_meanTrim 30 = .ok (.goto 4, 3) := by decide +kernel
theorem dX5_meanTrim_33 : decode cX5_meanTrim 33 = .ok (.dconst 0, 1) := by decide +kernel
theorem dX5_meanTrim_34 : decode cX5_meanTrim 34 = .ok (.dreturn, 1) := by decide +kernel
theorem dJx00060_init_a7421_0 : decode cJx00060_init_a7421 0 = .ok (.aload_n 0, 1) := by decide +kernel
theorem dJx00060_init_a7421_1 : decode cJx00060_init_a7421 1 = .ok (.aload_n 1, 1) := by decide +kernel
theorem dJx00060_init_a7421_2 : decode cJx00060_init_a7421 2 = .ok (.invokespecial 7, 3) := by decide +kernel
theorem dJx00060_init_a7421_5 : decode cJx00060_init_a7421 5 = .ok (.return_, 1) := by decide +kernel
theorem dJ9_abs_0f7a4_0 : decode cJ9_abs_0f7a4 0 = .ok (.iload_n 0, 1) := by decide +kernel
theorem dJ9_abs_0f7a4_1 : decode cJ9_abs_0f7a4 1 = .ok (.ifCond .ge 8, 3) := by decide +kernel
theorem dJ9_abs_0f7a4_4 : decode cJ9_abs_0f7a4 4 = .ok (.iload_n 0, 1) := by decide +kernel
theorem dJ9_abs_0f7a4_5 : decode cJ9_abs_0f7a4 5 = .ok (.ineg, 1) := by decide +kernel
theorem dJ9_abs_0f7a4_6 : decode cJ9_abs_0f7a4 6 = .ok (.goto 4, 3) := by decide +kernel
theorem dJ9_abs_0f7a4_9 : decode cJ9_abs_0f7a4 9 = .ok (.iload_n 0, 1) := by decide +kernel
theorem dJ9_abs_0f7a4_10 : decode cJ9_abs_0f7a4 10 = .ok (.ireturn, 1) := by decide +kernel
theorem dJ9_max_7cf53_0 : decode cJ9_max_7cf53 0 = .ok (.iload_n 0, 1) := by decide +kernel
theorem dJ9_max_7cf53_1 : decode cJ9_max_7cf53 1 = .ok (.iload_n 1, 1) := by decide +kernel
theorem dJ9_max_7cf53_2 : decode cJ9_max_7cf53 2 = .ok (.if_icmp .lt 7, 3) := by decide +kernel
theorem dJ9_max_7cf53_5 : decode cJ9_max_7cf53 5 = .ok (.iload_n 0, 1) := by decide +kernel
theorem dJ9_max_7cf53_6 : decode cJ9_max_7cf53 6 = .ok (.goto 4, 3) := by decide +kernel
theorem dJ9_max_7cf53_9 : decode cJ9_max_7cf53 9 = .ok (.iload_n 1, 1) := by decide +kernel
theorem dJ9_max_7cf53_10 : decode cJ9_max_7cf53 10 = .ok (.ireturn, 1) := by decide +kernel
theorem dJ9_min_7cf53_0 : decode cJ9_min_7cf53 0 = .ok (.iload_n 0, 1) := by decide +kernel
theorem dJ9_min_7cf53_1 : decode cJ9_min_7cf53 1 = .ok (.iload_n 1, 1) := by decide +kernel
theorem dJ9_min_7cf53_2 : decode cJ9_min_7cf53 2 = .ok (.if_icmp .gt 7, 3) := by decide +kernel
theorem dJ9_min_7cf53_5 : decode cJ9_min_7cf53 5 = .ok (.iload_n 0, 1) := by decide +kernel
theorem dJ9_min_7cf53_6 : decode cJ9_min_7cf53 6 = .ok (.goto 4, 3) := by decide +kernel
theorem dJ9_min_7cf53_9 : decode cJ9_min_7cf53 9 = .ok (.iload_n 1, 1) := by decide +kernel
theorem dJ9_min_7cf53_10 : decode cJ9_min_7cf53 10 = .ok (.ireturn, 1) := by decide +kernel
theorem dJ7_fill_53178_0 : decode cJ7_fill_53178 0 = .ok (.iconst 0, 1) := by decide +kernel
theorem dJ7_fill_53178_1 : decode cJ7_fill_53178 1 = .ok (.istore_n 2, 1) := by decide +kernel
theorem dJ7_fill_53178_2 : decode cJ7_fill_53178 2 = .ok (.aload_n 0, 1) := by decide +kernel
theorem dJ7_fill_53178_3 : decode cJ7_fill_53178 3 = .ok (.arraylength, 1) := by decide +kernel
theorem dJ7_fill_53178_4 : decode cJ7_fill_53178 4 = .ok (.istore_n 3, 1) := by decide +kernel
theorem dJ7_fill_53178_5 : decode cJ7_fill_53178 5 = .ok (.iload_n 2, 1) := by decide +kernel
theorem dJ7_fill_53178_6 : decode cJ7_fill_53178 6 = .ok (.iload_n 3, 1) := by decide +kernel
theorem dJ7_fill_53178_7 : decode cJ7_fill_53178 7 = .ok (.if_icmp .ge 13, 3) := by decide +kernel
theorem dJ7_fill_53178_10 : decode cJ7_fill_53178 10 = .ok (.aload_n 0, 1) := by decide +kernel
theorem dJ7_fill_53178_11 : decode cJ7_fill_53178 11 = .ok (.iload_n 2, 1) := by decide +kernel
theorem dJ7_fill_53178_12 : decode cJ7_fill_53178 12 = .ok (.iload_n 1, 1) := by decide +kernel
theorem dJ7_fill_53178_13 : decode cJ7_fill_53178 13 = .ok (.iastore, 1) := by decide +kernel
theorem dJ7_fill_53178_14 : decode cJ7_fill_53178 14 = .ok (.iinc 2 1, 3) := by decide +kernel
theorem dJ7_fill_53178_17 : decode cJ7_fill_53178 17 = .ok (.goto (-12), 3) := by decide +kernel
theorem dJ7_fill_53178_20 : decode cJ7_fill_53178 20 = .ok (.return_, 1) := by decide +kernel
set_option maxRecDepth 20000 in
theorem ggL_addGrade_X4_addGrade : GoodIn wsL_addGrade wsX4_addGrade := goodIn_ca (goodIn_ca (goodIn_ca (goodIn_r _ [7, 8, 9, 10, 11, 12, 13, 14, 15, 6, 16, 17, 18, 19, 20, 21, 22, 23, 24, 25, 26, 27, 28, 29, 30, 31, 32, 33] (by decide +kernel) (by decide +kernel)) (goodIn_sub (fun _ h => List.mem_cons_of_mem _ (List.mem_append_left _ (List.mem_append_right _ h))) (by decide +kernel))) (goodIn_sub (fun _ h => List.mem_cons_of_mem _ (List.mem_append_right _ h)) (by decide +kernel))) (goodIn_sub (fun _ h => List.mem_cons_of_mem _ (List.mem_append_left _ (List.mem_append_left _ (List.mem_append_right _ h)))) (by decide +kernel))
set_option maxRecDepth 20000 in
theorem gL_addGrade_X4_addGrade : GoodIn wsL_addGrade (wsV RL 7 RX4 yX4_addGrade wsX4_addGrade) := goodIn_app (goodIn_of _ (by decide +kernel)) ggL_addGrade_X4_addGrade
theorem dL_addGrade_0 : decode cL_addGrade 0 = .ok (.aload_n 2, 1) := by decide +kernel
theorem dL_addGrade_1 : decode cL_addGrade 1 = .ok (.iconst 0, 1) := by decide +kernel
theorem dL_addGrade_2 : decode cL_addGrade 2 = .ok (.aload_n 0, 1) := by decide +kernel
theorem dL_addGrade_3 : decode cL_addGrade 3 = .ok (.iload_n 1, 1) := by decide +kernel
theorem dL_addGrade_4 : decode cL_addGrade 4 = .ok (.invokevirtual 7, 3) := by decide +kernel
theorem dL_addGrade_7 : decode cL_addGrade 7 = .ok (.i2l, 1) := by decide +kernel
theorem dL_addGrade_8 : decode cL_addGrade 8 = .ok (.lastore, 1) := by decide +kernel
theorem dL_addGrade_9 : decode cL_addGrade 9 = .ok (.goto 9, 3) := by decide +kernel
theorem dL_addGrade_12 : decode cL_addGrade 12 = .ok (.astore_n 3, 1) := by decide +kernel
theorem dL_addGrade_13 : decode cL_addGrade 13 = .ok (.iconst 1, 1) := by decide +kernel
theorem dL_addGrade_14 : decode cL_addGrade 14 = .ok (.ireturn, 1) := by decide +kernel
theorem dL_addGrade_15 : decode cL_addGrade 15 = .ok (.astore_n 3, 1) := by decide +kernel
theorem dL_addGrade_16 : decode cL_addGrade 16 = .ok (.iconst 2, 1) := by decide +kernel
theorem dL_addGrade_17 : decode cL_addGrade 17 = .ok (.ireturn, 1) := by decide +kernel
theorem dL_addGrade_18 : decode cL_addGrade 18 = .ok (.iconst 0, 1) := by decide +kernel
theorem dL_addGrade_19 : decode cL_addGrade 19 = .ok (.ireturn, 1) := by decide +kernel
set_option maxRecDepth 20000 in
theorem ggL_setWidth_X4_setWidth : GoodIn wsL_setWidth wsX4_setWidth := goodIn_ca (goodIn_ca (goodIn_ca (goodIn_r _ [7, 8, 9, 10, 11, 12, 13, 14, 15, 6, 16, 17, 18, 19, 20, 21, 22, 23, 24, 25, 26, 27, 28, 29, 30, 31, 32, 33, 34, 35, 36, 37, 38, 39, 40, 41, 42, 43, 44, 45, 46] (by decide +kernel) (by decide +kernel)) (goodIn_sub (fun _ h => List.mem_cons_of_mem _ (List.mem_append_left _ (List.mem_append_right _ h))) (by decide +kernel))) (goodIn_sub (fun _ h => List.mem_cons_of_mem _ (List.mem_append_right _ h)) (by decide +kernel))) (goodIn_sub (fun _ h => List.mem_cons_of_mem _ (List.mem_append_left _ (List.mem_append_left _ (List.mem_append_right _ h)))) (by decide +kernel))
set_option maxRecDepth 20000 in
theorem gL_setWidth_X4_setWidth : GoodIn wsL_setWidth (wsV RL 17 RX4 yX4_setWidth wsX4_setWidth) := goodIn_app (goodIn_of _ (by decide +kernel)) ggL_setWidth_X4_setWidth
theorem dL_setWidth_0 : decode cL_setWidth 0 = .ok (.aload_n 2, 1) := by decide +kernel
theorem dL_setWidth_1 : decode cL_setWidth 1 = .ok (.iconst 0, 1) := by decide +kernel
theorem dL_setWidth_2 : decode cL_setWidth 2 = .ok (.aload_n 0, 1) := by decide +kernel
theorem dL_setWidth_3 : decode cL_setWidth 3 = .ok (.iload_n 1, 1) := by decide +kernel
theorem dL_setWidth_4 : decode cL_setWidth 4 = .ok (.invokevirtual 17, 3) := by decide +kernel
theorem dL_setWidth_7 : decode cL_setWidth 7 = .ok (.i2l, 1) := by decide +kernel
theorem dL_setWidth_8 : decode cL_setWidth 8 = .ok (.lastore, 1) := by decide +kernel
theorem dL_setWidth_9 : decode cL_setWidth 9 = .ok (.goto 9, 3) := by decide +kernel
theorem dL_setWidth_12 : decode cL_setWidth 12 = .ok (.astore_n 3, 1) := by decide +kernel
theorem dL_setWidth_13 : decode cL_setWidth 13 = .ok (.iconst 1, 1) := by decide +kernel
theorem dL_setWidth_14 : decode cL_setWidth 14 = .ok (.ireturn, 1) := by decide +kernel
theorem dL_setWidth_15 : decode cL_setWidth 15 = .ok (.astore_n 3, 1) := by decide +kernel
theorem dL_setWidth_16 : decode cL_setWidth 16 = .ok (.iconst 2, 1) := by decide +kernel
theorem dL_setWidth_17 : decode cL_setWidth 17 = .ok (.ireturn, 1) := by decide +kernel
theorem dL_setWidth_18 : decode cL_setWidth 18 = .ok (.iconst 0, 1) := by decide +kernel
theorem dL_setWidth_19 : decode cL_setWidth 19 = .ok (.ireturn, 1) := by decide +kernel
set_option maxRecDepth 20000 in
theorem ggL_change_X4_change : GoodIn wsL_change wsX4_change := goodIn_ca (goodIn_ca (goodIn_ca (goodIn_ca (goodIn_r _ [8, 9, 10, 11, 12, 13, 14, 15, 16, 17, 18, 19, 20, 21, 22, 23, 24, 25, 7, 26, 27, 28, 29, 30, 31, 32, 33, 34, 35, 36, 37, 38, 39, 40] (by decide +kernel) (by decide +kernel)) (goodIn_sub (fun _ h => List.mem_cons_of_mem _ (List.mem_append_left _ (List.mem_append_left _ (List.mem_append_right _ h)))) (by decide +kernel))) (goodIn_sub (fun _ h => List.mem_cons_of_mem _ (List.mem_append_left _ (List.mem_append_right _ h))) (by decide +kernel))) (goodIn_sub (fun _ h => List.mem_cons_of_mem _ (List.mem_append_right _ h)) (by decide +kernel))) (goodIn_sub (fun _ h => List.mem_cons_of_mem _ (List.mem_append_left _ (List.mem_append_left _ (List.mem_append_left _ (List.mem_append_right _ h))))) (by decide +kernel))
set_option maxRecDepth 20000 in
theorem gL_change_X4_change : GoodIn wsL_change (wsV RL 20 RX4 yX4_change wsX4_change) := goodIn_app (goodIn_of _ (by decide +kernel)) ggL_change_X4_change
theorem dL_change_0 : decode cL_change 0 = .ok (.aload_n 2, 1) := by decide +kernel
theorem dL_change_1 : decode cL_change 1 = .ok (.iconst 0, 1) := by decide +kernel
theorem dL_change_2 : decode cL_change 2 = .ok (.aload_n 0, 1) := by decide +kernel
theorem dL_change_3 : decode cL_change 3 = .ok (.iload_n 1, 1) := by decide +kernel
theorem dL_change_4 : decode cL_change 4 = .ok (.invokevirtual 20, 3) := by decide +kernel
theorem dL_change_7 : decode cL_change 7 = .ok (.i2l, 1) := by decide +kernel
theorem dL_change_8 : decode cL_change 8 = .ok (.lastore, 1) := by decide +kernel
theorem dL_change_9 : decode cL_change 9 = .ok (.goto 12, 3) := by decide +kernel
theorem dL_change_12 : decode cL_change 12 = .ok (.astore_n 3, 1) := by decide +kernel
theorem dL_change_13 : decode cL_change 13 = .ok (.iconst 1, 1) := by decide +kernel
theorem dL_change_14 : decode cL_change 14 = .ok (.ireturn, 1) := by decide +kernel
theorem dL_change_15 : decode cL_change 15 = .ok (.astore_n 3, 1) := by decide +kernel
theorem dL_change_16 : decode cL_change 16 = .ok (.iconst 2, 1) := by decide +kernel
theorem dL_change_17 : decode cL_change 17 = .ok (.ireturn, 1) := by decide +kernel
theorem dL_change_18 : decode cL_change 18 = .ok (.astore_n 3, 1) := by decide +kernel
theorem dL_change_19 : decode cL_change 19 = .ok (.iconst 3, 1) := by decide +kernel
theorem dL_change_20 : decode cL_change 20 = .ok (.ireturn, 1) := by decide +kernel
theorem dL_change_21 : decode cL_change 21 = .ok (.iconst 0, 1) := by decide +kernel
theorem dL_change_22 : decode cL_change 22 = .ok (.ireturn, 1) := by decide +kernel
set_option maxRecDepth 20000 in
theorem ggL_grade_X4_grade : GoodIn wsL_grade wsX4_grade := goodIn_ca (goodIn_r _ [6, 7, 8, 9, 10, 11, 12, 5, 13, 14, 15, 16, 17, 18, 19, 20, 21, 22, 23, 24, 25, 26, 27] (by decide +kernel) (by decide +kernel)) (goodIn_sub (fun _ h => List.mem_cons_of_mem _ (List.mem_append_right _ h)) (by decide +kernel))
set_option maxRecDepth 20000 in
theorem gL_grade_X4_grade : GoodIn wsL_grade (wsV RL 25 RX4 yX4_grade wsX4_grade) := goodIn_app (goodIn_of _ (by decide +kernel)) ggL_grade_X4_grade
theorem dL_grade_0 : decode cL_grade 0 = .ok (.aload_n 1, 1) := by decide +kernel
theorem dL_grade_1 : decode cL_grade 1 = .ok (.iconst 0, 1) := by decide +kernel
theorem dL_grade_2 : decode cL_grade 2 = .ok (.aload_n 0, 1) := by decide +kernel
theorem dL_grade_3 : decode cL_grade 3 = .ok (.invokevirtual 25, 3) := by decide +kernel
theorem dL_grade_6 : decode cL_grade 6 = .ok (.i2l, 1) := by decide +kernel
theorem dL_grade_7 : decode cL_grade 7 = .ok (.lastore, 1) := by decide +kernel
theorem dL_grade_8 : decode cL_grade 8 = .ok (.goto 6, 3) := by decide +kernel
theorem dL_grade_11 : decode cL_grade 11 = .ok (.astore_n 2, 1) := by decide +kernel
theorem dL_grade_12 : decode cL_grade 12 = .ok (.iconst 1, 1) := by decide +kernel
theorem dL_grade_13 : decode cL_grade 13 = .ok (.ireturn, 1) := by decide +kernel
theorem dL_grade_14 : decode cL_grade 14 = .ok (.iconst 0, 1) := by decide +kernel
theorem dL_grade_15 : decode cL_grade 15 = .ok (.ireturn, 1) := by decide +kernel
set_option maxRecDepth 20000 in
theorem ggL_next_X4_next : GoodIn wsL_next wsX4_next := goodIn_ca (goodIn_ca (goodIn_r _ [6, 7, 8, 9, 10, 11, 12, 13, 14, 5, 15, 16, 17, 18, 19, 20, 21, 22, 23, 24, 25, 26, 27, 28, 29, 30, 31, 32, 33, 34, 35, 36, 37, 38, 39, 40, 41, 42, 43, 44, 45, 46, 47] (by decide +kernel) (by decide +kernel)) (goodIn_sub (fun _ h => List.mem_cons_of_mem _ (List.mem_append_left _ (List.mem_append_right _ h))) (by decide +kernel))) (goodIn_sub (fun _ h => List.mem_cons_of_mem _ (List.mem_append_right _ h)) (by decide +kernel))
set_option maxRecDepth 20000 in
theorem gL_next_X4_next : GoodIn wsL_next (wsV RL 31 RX4 yX4_next wsX4_next) := goodIn_app (goodIn_of _ (by decide +kernel)) ggL_next_X4_next
theorem dL_next_0 : decode cL_next 0 = .ok (.aload_n 1, 1) := by decide +kernel
theorem dL_next_1 : decode cL_next 1 = .ok (.iconst 0, 1) := by decide +kernel
theorem dL_next_2 : decode cL_next 2 = .ok (.aload_n 0, 1) := by decide +kernel
theorem dL_next_3 : decode cL_next 3 = .ok (.invokevirtual 31, 3) := by decide +kernel
theorem dL_next_6 : decode cL_next 6 = .ok (.i2l, 1) := by decide +kernel
theorem dL_next_7 : decode cL_next 7 = .ok (.lastore, 1) := by decide +kernel
theorem dL_next_8 : decode cL_next 8 = .ok (.goto 6, 3) := by decide +kernel
theorem dL_next_11 : decode cL_next 11 = .ok (.astore_n 2, 1) := by decide +kernel
theorem dL_next_12 : decode cL_next 12 = .ok (.iconst 1, 1) := by decide +kernel
theorem dL_next_13 : decode cL_next 13 = .ok (.ireturn, 1) := by decide +kernel
theorem dL_next_14 : decode cL_next 14 = .ok (.iconst 0, 1) := by decide +kernel
theorem dL_next_15 : decode cL_next 15 = .ok (.ireturn, 1) := by decide +kernel
set_option maxRecDepth 20000 in
theorem ggL_mass_X4_mass : GoodIn wsL_mass wsX4_mass := goodIn_ca (goodIn_ca (goodIn_r _ [6, 7, 8, 9, 10, 11, 5, 12, 13, 14, 15, 16, 17, 18, 19, 20, 21, 22, 23, 24, 25, 26, 27, 28, 29, 30, 31, 32] (by decide +kernel) (by decide +kernel)) (goodIn_sub (fun _ h => List.mem_cons_of_mem _ (List.mem_append_right _ h)) (by decide +kernel))) (goodIn_sub (fun _ h => List.mem_cons_of_mem _ (List.mem_append_left _ (List.mem_append_right _ h))) (by decide +kernel))
set_option maxRecDepth 20000 in
theorem gL_mass_X4_mass : GoodIn wsL_mass (wsV RL 34 RX4 yX4_mass wsX4_mass) := goodIn_app (goodIn_of _ (by decide +kernel)) ggL_mass_X4_mass
theorem dL_mass_0 : decode cL_mass 0 = .ok (.aload_n 2, 1) := by decide +kernel
theorem dL_mass_1 : decode cL_mass 1 = .ok (.iconst 0, 1) := by decide +kernel
theorem dL_mass_2 : decode cL_mass 2 = .ok (.aload_n 0, 1) := by decide +kernel
theorem dL_mass_3 : decode cL_mass 3 = .ok (.iload_n 1, 1) := by decide +kernel
theorem dL_mass_4 : decode cL_mass 4 = .ok (.invokevirtual 34, 3) := by decide +kernel
theorem dL_mass_7 : decode cL_mass 7 = .ok (.i2l, 1) := by decide +kernel
theorem dL_mass_8 : decode cL_mass 8 = .ok (.lastore, 1) := by decide +kernel
theorem dL_mass_9 : decode cL_mass 9 = .ok (.goto 6, 3) := by decide +kernel
theorem dL_mass_12 : decode cL_mass 12 = .ok (.astore_n 3, 1) := by decide +kernel
theorem dL_mass_13 : decode cL_mass 13 = .ok (.iconst 1, 1) := by decide +kernel
theorem dL_mass_14 : decode cL_mass 14 = .ok (.ireturn, 1) := by decide +kernel
theorem dL_mass_15 : decode cL_mass 15 = .ok (.iconst 0, 1) := by decide +kernel
theorem dL_mass_16 : decode cL_mass 16 = .ok (.ireturn, 1) := by decide +kernel
set_option maxRecDepth 20000 in
theorem ggL_order_X4_order : GoodIn wsL_order wsX4_order := goodIn_ca (goodIn_ca (goodIn_ca (goodIn_ca (goodIn_ca (goodIn_r _ [9, 10, 11, 12, 13, 14, 15, 16, 17, 18, 19, 20, 21, 22, 8, 23, 24, 25, 26, 27, 28, 29, 30, 31, 32, 33, 34, 35, 36, 37, 38, 39, 40, 41, 42, 43, 44, 45, 46, 47, 48, 49, 50, 51, 52, 53, 54, 55, 56, 57, 58, 59, 60] (by decide +kernel) (by decide +kernel)) (goodIn_sub (fun _ h => List.mem_cons_of_mem _ (List.mem_append_left _ (List.mem_append_left _ (List.mem_append_left _ (List.mem_append_right _ h))))) (by decide +kernel))) (goodIn_sub (fun _ h => List.mem_cons_of_mem _ (List.mem_append_left _ (List.mem_append_left _ (List.mem_append_right _ h)))) (by decide +kernel))) (goodIn_sub (fun _ h => List.mem_cons_of_mem _ (List.mem_append_left _ (List.mem_append_right _ h))) (by decide +kernel))) (goodIn_sub (fun _ h => List.mem_cons_of_mem _ (List.mem_append_right _ h)) (by decide +kernel))) (goodIn_sub (fun _ h => List.mem_cons_of_mem _ (List.mem_append_left _ (List.mem_append_left _ (List.mem_append_left _ (List.mem_append_left _ (List.mem_append_right _ h)))))) (by decide +kernel))
set_option maxRecDepth 20000 in
theorem gL_order_X4_order : GoodIn wsL_order (wsV RL 37 RX4 yX4_order wsX4_order) := goodIn_app (goodIn_of _ (by decide +kernel)) ggL_order_X4_order
theorem dL_order_0 : decode cL_order 0 = .ok (.aload 4, 2) := by decide +kernel
theorem dL_order_2 : decode cL_order 2 = .ok (.iconst 0, 1) := by decide +kernel
theorem dL_order_3 : decode cL_order 3 = .ok (.aload_n 0, 1) := by decide +kernel
theorem dL_order_4 : decode cL_order 4 = .ok (.iload_n 1, 1) := by decide +kernel
theorem dL_order_5 : decode cL_order 5 = .ok (.iload_n 2, 1) := by decide +kernel
theorem dL_order_6 : decode cL_order 6 = .ok (.iload_n 3, 1) := by decide +kernel
theorem dL_order_7 : decode cL_order 7 = .ok (.invokevirtual 37, 3) := by decide +kernel
theorem dL_order_10 : decode cL_order 10 = .ok (.i2l, 1) := by decide +kernel
theorem dL_order_11 : decode cL_order 11 = .ok (.lastore, 1) := by decide +kernel
theorem dL_order_12 : decode cL_order 12 = .ok (.goto 19, 3) := by decide +kernel
theorem dL_order_15 : decode cL_order 15 = .ok (.astore 5, 2) := by decide +kernel
theorem dL_order_17 : decode cL_order 17 = .ok (.iconst 1, 1) := by decide +kernel
theorem dL_order_18 : decode cL_order 18 = .ok (.ireturn, 1) := by decide +kernel
theorem dL_order_19 : decode cL_order 19 = .ok (.astore 5, 2) := by decide +kernel
theorem dL_order_21 : decode cL_order 21 = .ok (.iconst 2, 1) := by decide +kernel
theorem dL_order_22 : decode cL_order 22 = .ok (.ireturn, 1) := by decide +kernel
theorem dL_order_23 : decode cL_order 23 = .ok (.astore 5, 2) := by decide +kernel
theorem dL_order_25 : decode cL_order 25 = .ok (.iconst 3, 1) := by decide +kernel
theorem dL_order_26 : decode cL_order 26 = .ok (.ireturn, 1) := by decide +kernel
theorem dL_order_27 : decode cL_order 27 = .ok (.astore 5, 2) := by decide +kernel
theorem dL_order_29 : decode cL_order 29 = .ok (.iconst 4, 1) := by decide +kernel
theorem dL_order_30 : decode cL_order 30 = .ok (.ireturn, 1) := by decide +kernel
theorem dL_order_31 : decode cL_order 31 = .ok (.iconst 0, 1) := by decide +kernel
theorem dL_order_32 : decode cL_order 32 = .ok (.ireturn, 1) := by decide +kernel
set_option maxRecDepth 20000 in
theorem ggL_cancel_X4_cancel : GoodIn wsL_cancel wsX4_cancel := goodIn_ca (goodIn_ca (goodIn_ca (goodIn_r _ [7, 8, 9, 10, 11, 12, 13, 14, 15, 16, 17, 18, 19, 20, 21, 22, 23, 24, 25, 26, 27, 28, 29, 30, 31, 32, 33, 34, 35, 36, 37] (by decide +kernel) (by decide +kernel)) (goodIn_sub (fun _ h => List.mem_cons_of_mem _ (List.mem_append_left _ (List.mem_append_right _ h))) (by decide +kernel))) (goodIn_sub (fun _ h => List.mem_cons_of_mem _ (List.mem_append_left _ (List.mem_append_left _ (List.mem_append_right _ h)))) (by decide +kernel))) (goodIn_sub (fun _ h => List.mem_cons_of_mem _ (List.mem_append_right _ h)) (by decide +kernel))
set_option maxRecDepth 20000 in
theorem gL_cancel_X4_cancel : GoodIn wsL_cancel (wsV RL 43 RX4 yX4_cancel wsX4_cancel) := goodIn_app (goodIn_of _ (by decide +kernel)) ggL_cancel_X4_cancel
theorem dL_cancel_0 : decode cL_cancel 0 = .ok (.aload_n 2, 1) := by decide +kernel
theorem dL_cancel_1 : decode cL_cancel 1 = .ok (.iconst 0, 1) := by decide +kernel
theorem dL_cancel_2 : decode cL_cancel 2 = .ok (.aload_n 0, 1) := by decide +kernel
theorem dL_cancel_3 : decode cL_cancel 3 = .ok (.iload_n 1, 1) := by decide +kernel
theorem dL_cancel_4 : decode cL_cancel 4 = .ok (.invokevirtual 43, 3) := by decide +kernel
theorem dL_cancel_7 : decode cL_cancel 7 = .ok (.i2l, 1) := by decide +kernel
theorem dL_cancel_8 : decode cL_cancel 8 = .ok (.lastore, 1) := by decide +kernel
theorem dL_cancel_9 : decode cL_cancel 9 = .ok (.goto 9, 3) := by decide +kernel
theorem dL_cancel_12 : decode cL_cancel 12 = .ok (.astore_n 3, 1) := by decide +kernel
theorem dL_cancel_13 : decode cL_cancel 13 = .ok (.iconst 1, 1) := by decide +kernel
theorem dL_cancel_14 : decode cL_cancel 14 = .ok (.ireturn, 1) := by decide +kernel
theorem dL_cancel_15 : decode cL_cancel 15 = .ok (.astore_n 3, 1) := by decide +kernel
theorem dL_cancel_16 : decode cL_cancel 16 = .ok (.iconst 2, 1) := by decide +kernel
theorem dL_cancel_17 : decode cL_cancel 17 = .ok (.ireturn, 1) := by decide +kernel
theorem dL_cancel_18 : decode cL_cancel 18 = .ok (.iconst 0, 1) := by decide +kernel
theorem dL_cancel_19 : decode cL_cancel 19 = .ok (.ireturn, 1) := by decide +kernel
set_option maxRecDepth 20000 in
theorem ggL_cut_X4_cut : GoodIn wsL_cut wsX4_cut := goodIn_ca (goodIn_ca (goodIn_r _ [6, 7, 8, 9, 10, 11, 12, 13, 14, 15, 16, 17, 18, 19, 20, 21, 22, 23, 24, 25, 26, 27, 28, 29, 30, 31, 32, 33, 34] (by decide +kernel) (by decide +kernel)) (goodIn_sub (fun _ h => List.mem_cons_of_mem _ (List.mem_append_right _ h)) (by decide +kernel))) (goodIn_sub (fun _ h => List.mem_cons_of_mem _ (List.mem_append_left _ (List.mem_append_right _ h))) (by decide +kernel))
set_option maxRecDepth 20000 in
theorem gL_cut_X4_cut : GoodIn wsL_cut (wsV RL 46 RX4 yX4_cut wsX4_cut) := goodIn_app (goodIn_of _ (by decide +kernel)) ggL_cut_X4_cut
theorem dL_cut_0 : decode cL_cut 0 = .ok (.aload_n 2, 1) := by decide +kernel
theorem dL_cut_1 : decode cL_cut 1 = .ok (.iconst 0, 1) := by decide +kernel
theorem dL_cut_2 : decode cL_cut 2 = .ok (.aload_n 0, 1) := by decide +kernel
theorem dL_cut_3 : decode cL_cut 3 = .ok (.iload_n 1, 1) := by decide +kernel
theorem dL_cut_4 : decode cL_cut 4 = .ok (.invokevirtual 46, 3) := by decide +kernel
theorem dL_cut_7 : decode cL_cut 7 = .ok (.i2l, 1) := by decide +kernel
theorem dL_cut_8 : decode cL_cut 8 = .ok (.lastore, 1) := by decide +kernel
theorem dL_cut_9 : decode cL_cut 9 = .ok (.goto 6, 3) := by decide +kernel
theorem dL_cut_12 : decode cL_cut 12 = .ok (.astore_n 3, 1) := by decide +kernel
theorem dL_cut_13 : decode cL_cut 13 = .ok (.iconst 1, 1) := by decide +kernel
theorem dL_cut_14 : decode cL_cut 14 = .ok (.ireturn, 1) := by decide +kernel
theorem dL_cut_15 : decode cL_cut 15 = .ok (.iconst 0, 1) := by decide +kernel
theorem dL_cut_16 : decode cL_cut 16 = .ok (.ireturn, 1) := by decide +kernel
set_option maxRecDepth 20000 in
theorem ggL_lacks_X4_lacks : GoodIn wsL_lacks wsX4_lacks := goodIn_ca (goodIn_ca (goodIn_r _ [6, 7, 8, 9, 10, 11, 12, 13, 14, 15, 16, 17, 18, 19, 20, 21, 22, 23, 24, 25, 26, 27, 28, 29, 30, 31, 32, 33, 34] (by decide +kernel) (by decide +kernel)) (goodIn_sub (fun _ h => List.mem_cons_of_mem _ (List.mem_append_right _ h)) (by decide +kernel))) (goodIn_sub (fun _ h => List.mem_cons_of_mem _ (List.mem_append_left _ (List.mem_append_right _ h))) (by decide +kernel))
set_option maxRecDepth 20000 in
theorem gL_lacks_X4_lacks : GoodIn wsL_lacks (wsV RL 49 RX4 yX4_lacks wsX4_lacks) := goodIn_app (goodIn_of _ (by decide +kernel)) ggL_lacks_X4_lacks
theorem dL_lacks_0 : decode cL_lacks 0 = .ok (.aload_n 2, 1) := by decide +kernel
theorem dL_lacks_1 : decode cL_lacks 1 = .ok (.iconst 0, 1) := by decide +kernel
theorem dL_lacks_2 : decode cL_lacks 2 = .ok (.aload_n 0, 1) := by decide +kernel
theorem dL_lacks_3 : decode cL_lacks 3 = .ok (.iload_n 1, 1) := by decide +kernel
theorem dL_lacks_4 : decode cL_lacks 4 = .ok (.invokevirtual 49, 3) := by decide +kernel
theorem dL_lacks_7 : decode cL_lacks 7 = .ok (.i2l, 1) := by decide +kernel
theorem dL_lacks_8 : decode cL_lacks 8 = .ok (.lastore, 1) := by decide +kernel
theorem dL_lacks_9 : decode cL_lacks 9 = .ok (.goto 6, 3) := by decide +kernel
theorem dL_lacks_12 : decode cL_lacks 12 = .ok (.astore_n 3, 1) := by decide +kernel
theorem dL_lacks_13 : decode cL_lacks 13 = .ok (.iconst 1, 1) := by decide +kernel
theorem dL_lacks_14 : decode cL_lacks 14 = .ok (.ireturn, 1) := by decide +kernel
theorem dL_lacks_15 : decode cL_lacks 15 = .ok (.iconst 0, 1) := by decide +kernel
theorem dL_lacks_16 : decode cL_lacks 16 = .ok (.ireturn, 1) := by decide +kernel
set_option maxRecDepth 20000 in
theorem ggL_trim_X4_trim : GoodIn wsL_trim wsX4_trim := goodIn_ca (goodIn_ca (goodIn_r _ [6, 7, 8, 9, 10, 11, 12, 13, 14, 5, 15, 16, 17, 18, 19, 20, 21, 22, 23, 24, 25, 26, 27, 28, 29, 30, 31, 32, 33, 34, 35, 36, 37, 38, 39, 40, 41, 42, 43, 44, 45, 46, 47, 48, 49, 50, 51, 52, 53, 54, 55, 56, 57, 58, 59, 60, 61, 62, 63, 64, 65, 66, 67, 68, 69, 70, 71, 72, 73, 74, 75, 76, 77, 78, 79, 80, 81, 82, 83, 84, 85, 86, 87, 88, 89] (by decide +kernel) (by decide +kernel)) (goodIn_sub (fun _ h => List.mem_cons_of_mem _ (List.mem_append_right _ h)) (by decide +kernel))) (goodIn_sub (fun _ h => List.mem_cons_of_mem _ (List.mem_append_left _ (List.mem_append_right _ h))) (by decide +kernel))
set_option maxRecDepth 20000 in
theorem gL_trim_X4_trim : GoodIn wsL_trim (wsV RL 52 RX4 yX4_trim wsX4_trim) := goodIn_app (goodIn_of _ (by decide +kernel)) ggL_trim_X4_trim
theorem dL_trim_0 : decode cL_trim 0 = .ok (.aload_n 2, 1) := by decide +kernel
theorem dL_trim_1 : decode cL_trim 1 = .ok (.iconst 0, 1) := by decide +kernel
theorem dL_trim_2 : decode cL_trim 2 = .ok (.aload_n 0, 1) := by decide +kernel
theorem dL_trim_3 : decode cL_trim 3 = .ok (.iload_n 1, 1) := by decide +kernel
theorem dL_trim_4 : decode cL_trim 4 = .ok (.invokevirtual 52, 3) := by decide +kernel
theorem dL_trim_7 : decode cL_trim 7 = .ok (.i2l, 1) := by decide +kernel
theorem dL_trim_8 : decode cL_trim 8 = .ok (.lastore, 1) := by decide +kernel
theorem dL_trim_9 : decode cL_trim 9 = .ok (.goto 6, 3) := by decide +kernel
theorem dL_trim_12 : decode cL_trim 12 = .ok (.astore_n 3, 1) := by decide +kernel
theorem dL_trim_13 : decode cL_trim 13 = .ok (.iconst 1, 1) := by decide +kernel
theorem dL_trim_14 : decode cL_trim 14 = .ok (.ireturn, 1) := by decide +kernel
theorem dL_trim_15 : decode cL_trim 15 = .ok (.iconst 0, 1) := by decide +kernel
theorem dL_trim_16 : decode cL_trim 16 = .ok (.ireturn, 1) := by decide +kernel
set_option maxRecDepth 20000 in
theorem ggL_trimByTable_X4_trimByTable : GoodIn wsL_trimByTable wsX4_trimByTable := goodIn_ca (goodIn_ca (goodIn_r _ [6, 7, 8, 9, 10, 11, 12, 13, 14, 5, 15, 16, 17, 18, 19, 20, 21, 22, 23, 24, 25, 26, 27, 28, 29, 30, 31, 32, 33, 34, 35, 36, 37, 38, 39, 40, 41, 42, 43, 44, 45, 46, 47, 48, 49, 50, 51, 52, 53, 54, 55, 56, 57, 58, 59, 60, 61, 62, 63, 64, 65, 66, 67, 68, 69, 70, 71, 72, 73, 74, 75, 76, 77, 78, 79, 80] (by decide +kernel) (by decide +kernel)) (goodIn_sub (fun _ h => List.mem_cons_of_mem _ (List.mem_append_right _ h)) (by decide +kernel))) (goodIn_sub (fun _ h => List.mem_cons_of_mem _ (List.mem_append_left _ (List.mem_append_right _ h))) (by decide +kernel))
set_option maxRecDepth 20000 in
theorem gL_trimByTable_X4_trimByTable : GoodIn wsL_trimByTable (wsV RL 55 RX4 yX4_trimByTable wsX4_trimByTable) := goodIn_app (goodIn_of _ (by decide +kernel)) ggL_trimByTable_X4_trimByTable
theorem dL_trimByTable_0 : decode cL_trimByTable 0 = .ok (.aload_n 2, 1) := by decide +kernel
theorem dL_trimByTable_1 : decode cL_trimByTable 1 = .ok (.iconst 0, 1) := by decide +kernel
theorem dL_trimByTable_2 : decode cL_trimByTable 2 = .ok (.aload_n 0, 1) := by decide +kernel
theorem dL_trimByTable_3 : decode cL_trimByTable 3 = .ok (.iload_n 1, 1) := by decide +kernel
theorem dL_trimByTable_4 : decode cL_trimByTable 4 = .ok (.invokevirtual 55, 3) := by decide +kernel
theorem dL_trimByTable_7 : decode cL_trimByTable 7 = .ok (.i2l, 1) := by decide +kernel
theorem dL_trimByTable_8 : decode cL_trimByTable 8 = .ok (.lastore, 1) := by decide +kernel
theorem dL_trimByTable_9 : decode cL_trimByTable 9 = .ok (.goto 6, 3) := by decide +kernel
theorem dL_trimByTable_12 : decode cL_trimByTable 12 = .ok (.astore_n 3, 1) := by decide +kernel
theorem dL_trimByTable_13 : decode cL_trimByTable 13 = .ok (.iconst 1, 1) := by decide +kernel
theorem dL_trimByTable_14 : decode cL_trimByTable 14 = .ok (.ireturn, 1) := by decide +kernel
theorem dL_trimByTable_15 : decode cL_trimByTable 15 = .ok (.iconst 0, 1) := by decide +kernel
theorem dL_trimByTable_16 : decode cL_trimByTable 16 = .ok (.ireturn, 1) := by decide +kernel
set_option maxRecDepth 20000 in
theorem ggL_inCut_X4_inCut : GoodIn wsL_inCut wsX4_inCut := goodIn_ca (goodIn_ca (goodIn_r _ [6, 7, 8, 9, 10, 11, 12, 13, 14, 15, 16, 17, 18, 19, 20, 21, 22, 23, 24, 25, 26, 27, 28, 29, 30, 31, 32, 33, 34, 35, 36, 37, 38, 39, 40, 41, 42, 43, 44, 45, 46, 47, 48, 49, 50, 51, 52, 53, 54, 55, 56, 57, 58, 59, 60, 61, 62, 63, 64, 65, 66, 67, 68, 69, 70, 71, 72, 73, 74, 75, 76, 77, 78, 79, 80, 81, 82, 83, 84, 85, 86, 87] (by decide +kernel) (by decide +kernel)) (goodIn_sub (fun _ h => List.mem_cons_of_mem _ (List.mem_append_right _ h)) (by decide +kernel))) (goodIn_sub (fun _ h => List.mem_cons_of_mem _ (List.mem_append_left _ (List.mem_append_right _ h))) (by decide +kernel))
set_option maxRecDepth 20000 in
theorem gL_inCut_X4_inCut : GoodIn wsL_inCut (wsV RL 58 RX4 yX4_inCut wsX4_inCut) := goodIn_app (goodIn_of _ (by decide +kernel)) ggL_inCut_X4_inCut
theorem dL_inCut_0 : decode cL_inCut 0 = .ok (.aload_n 2, 1) := by decide +kernel
theorem dL_inCut_1 : decode cL_inCut 1 = .ok (.iconst 0, 1) := by decide +kernel
theorem dL_inCut_2 : decode cL_inCut 2 = .ok (.aload_n 0, 1) := by decide +kernel
theorem dL_inCut_3 : decode cL_inCut 3 = .ok (.iload_n 1, 1) := by decide +kernel
theorem dL_inCut_4 : decode cL_inCut 4 = .ok (.invokevirtual 58, 3) := by decide +kernel
theorem dL_inCut_7 : decode cL_inCut 7 = .ok (.i2l, 1) := by decide +kernel
theorem dL_inCut_8 : decode cL_inCut 8 = .ok (.lastore, 1) := by decide +kernel
theorem dL_inCut_9 : decode cL_inCut 9 = .ok (.goto 6, 3) := by decide +kernel
theorem dL_inCut_12 : decode cL_inCut 12 = .ok (.astore_n 3, 1) := by decide +kernel
theorem dL_inCut_13 : decode cL_inCut 13 = .ok (.iconst 1, 1) := by decide +kernel
theorem dL_inCut_14 : decode cL_inCut 14 = .ok (.ireturn, 1) := by decide +kernel
theorem dL_inCut_15 : decode cL_inCut 15 = .ok (.iconst 0, 1) := by decide +kernel
theorem dL_inCut_16 : decode cL_inCut 16 = .ok (.ireturn, 1) := by decide +kernel
set_option maxRecDepth 20000 in
theorem ggL_leastHours_X4_leastHours : GoodIn wsL_leastHours wsX4_leastHours := goodIn_ca (goodIn_ca (goodIn_ca (goodIn_r _ [6, 7, 8, 9, 10, 11, 12, 13, 14, 15, 16, 17, 5, 18, 19, 20, 21, 22, 23, 24, 25, 26, 27, 28, 29, 30, 31, 32, 33, 34, 35, 36, 37, 38, 39, 40, 41, 42, 43, 44, 45, 46, 47, 48, 49, 50, 51, 52, 53] (by decide +kernel) (by decide +kernel)) (goodIn_sub (fun _ h => List.mem_cons_of_mem _ (List.mem_append_left _ (List.mem_append_right _ h))) (by decide +kernel))) (goodIn_sub (fun _ h => List.mem_cons_of_mem _ (List.mem_append_left _ (List.mem_append_left _ (List.mem_append_right _ h)))) (by decide +kernel))) (goodIn_sub (fun _ h => List.mem_cons_of_mem _ (List.mem_append_right _ h)) (by decide +kernel))
set_option maxRecDepth 20000 in
theorem gL_leastHours_X4_leastHours : GoodIn wsL_leastHours (wsV RL 61 RX4 yX4_leastHours wsX4_leastHours) := goodIn_app (goodIn_of _ (by decide +kernel)) ggL_leastHours_X4_leastHours
theorem dL_leastHours_0 : decode cL_leastHours 0 = .ok (.aload_n 2, 1) := by decide +kernel
theorem dL_leastHours_1 : decode cL_leastHours 1 = .ok (.iconst 0, 1) := by decide +kernel
theorem dL_leastHours_2 : decode cL_leastHours 2 = .ok (.aload_n 0, 1) := by decide +kernel
theorem dL_leastHours_3 : decode cL_leastHours 3 = .ok (.iload_n 1, 1) := by decide +kernel
theorem dL_leastHours_4 : decode cL_leastHours 4 = .ok (.invokevirtual 61, 3) := by decide +kernel
theorem dL_leastHours_7 : decode cL_leastHours 7 = .ok (.i2l, 1) := by decide +kernel
theorem dL_leastHours_8 : decode cL_leastHours 8 = .ok (.lastore, 1) := by decide +kernel
theorem dL_leastHours_9 : decode cL_leastHours 9 = .ok (.goto 6, 3) := by decide +kernel
theorem dL_leastHours_12 : decode cL_leastHours 12 = .ok (.astore_n 3, 1) := by decide +kernel
theorem dL_leastHours_13 : decode cL_leastHours 13 = .ok (.iconst 1, 1) := by decide +kernel
theorem dL_leastHours_14 : decode cL_leastHours 14 = .ok (.ireturn, 1) := by decide +kernel
theorem dL_leastHours_15 : decode cL_leastHours 15 = .ok (.iconst 0, 1) := by decide +kernel
theorem dL_leastHours_16 : decode cL_leastHours 16 = .ok (.ireturn, 1) := by decide +kernel
set_option maxRecDepth 20000 in
theorem ggL_setShare_X4_setShare : GoodIn wsL_setShare wsX4_setShare := goodIn_ca (goodIn_r _ [6, 7, 8, 9, 10, 11, 5, 12, 13, 14, 15, 16, 17, 18, 19, 20, 21, 22, 23, 24, 25] (by decide +kernel) (by decide +kernel)) (goodIn_sub (fun _ h => List.mem_cons_of_mem _ (List.mem_append_right _ h)) (by decide +kernel))
set_option maxRecDepth 20000 in
theorem gL_setShare_X4_setShare : GoodIn wsL_setShare (wsV RL 64 RX4 yX4_setShare wsX4_setShare) := goodIn_app (goodIn_of _ (by decide +kernel)) ggL_setShare_X4_setShare
theorem dL_setShare_0 : decode cL_setShare 0 = .ok (.aload_n 2, 1) := by decide +kernel
theorem dL_setShare_1 : decode cL_setShare 1 = .ok (.iconst 0, 1) := by decide +kernel
theorem dL_setShare_2 : decode cL_setShare 2 = .ok (.aload_n 0, 1) := by decide +kernel
theorem dL_setShare_3 : decode cL_setShare 3 = .ok (.iload_n 1, 1) := by decide +kernel
theorem dL_setShare_4 : decode cL_setShare 4 = .ok (.invokevirtual 64, 3) := by decide +kernel
theorem dL_setShare_7 : decode cL_setShare 7 = .ok (.i2l, 1) := by decide +kernel
theorem dL_setShare_8 : decode cL_setShare 8 = .ok (.lastore, 1) := by decide +kernel
theorem dL_setShare_9 : decode cL_setShare 9 = .ok (.goto 6, 3) := by decide +kernel
theorem dL_setShare_12 : decode cL_setShare 12 = .ok (.astore_n 3, 1) := by decide +kernel
theorem dL_setShare_13 : decode cL_setShare 13 = .ok (.iconst 1, 1) := by decide +kernel
theorem dL_setShare_14 : decode cL_setShare 14 = .ok (.ireturn, 1) := by decide +kernel
theorem dL_setShare_15 : decode cL_setShare 15 = .ok (.iconst 0, 1) := by decide +kernel
theorem dL_setShare_16 : decode cL_setShare 16 = .ok (.ireturn, 1) := by decide +kernel
set_option maxRecDepth 20000 in
theorem ggL_setContract_X4_setContract : GoodIn wsL_setContract wsX4_setContract := goodIn_ca (goodIn_r _ [6, 7, 8, 9, 10, 11, 12, 13, 14, 5, 15, 16, 17, 18, 19, 20, 21, 22, 23, 24, 25, 26, 27, 28, 29, 30, 31] (by decide +kernel) (by decide +kernel)) (goodIn_sub (fun _ h => List.mem_cons_of_mem _ (List.mem_append_right _ h)) (by decide +kernel))
set_option maxRecDepth 20000 in
theorem gL_setContract_X4_setContract : GoodIn wsL_setContract (wsV RL 67 RX4 yX4_setContract wsX4_setContract) := goodIn_app (goodIn_of _ (by decide +kernel)) ggL_setContract_X4_setContract
theorem dL_setContract_0 : decode cL_setContract 0 = .ok (.aload 4, 2) := by decide +kernel
theorem dL_setContract_2 : decode cL_setContract 2 = .ok (.iconst 0, 1) := by decide +kernel
theorem dL_setContract_3 : decode cL_setContract 3 = .ok (.aload_n 0, 1) := by decide +kernel
theorem dL_setContract_4 : decode cL_setContract 4 = .ok (.iload_n 1, 1) := by decide +kernel
theorem dL_setContract_5 : decode cL_setContract 5 = .ok (.iload_n 2, 1) := by decide +kernel
theorem dL_setContract_6 : decode cL_setContract 6 = .ok (.iload_n 3, 1) := by decide +kernel
theorem dL_setContract_7 : decode cL_setContract 7 = .ok (.invokevirtual 67, 3) := by decide +kernel
theorem dL_setContract_10 : decode cL_setContract 10 = .ok (.i2l, 1) := by decide +kernel
theorem dL_setContract_11 : decode cL_setContract 11 = .ok (.lastore, 1) := by decide +kernel
theorem dL_setContract_12 : decode cL_setContract 12 = .ok (.goto 7, 3) := by decide +kernel
theorem dL_setContract_15 : decode cL_setContract 15 = .ok (.astore 5, 2) := by decide +kernel
theorem dL_setContract_17 : decode cL_setContract 17 = .ok (.iconst 1, 1) := by decide +kernel
theorem dL_setContract_18 : decode cL_setContract 18 = .ok (.ireturn, 1) := by decide +kernel
theorem dL_setContract_19 : decode cL_setContract 19 = .ok (.iconst 0, 1) := by decide +kernel
theorem dL_setContract_20 : decode cL_setContract 20 = .ok (.ireturn, 1) := by decide +kernel
set_option maxRecDepth 20000 in
theorem ggL_pass_X4_pass : GoodIn wsL_pass wsX4_pass := goodIn_ca (goodIn_ca (goodIn_ca (goodIn_ca (goodIn_r _ [7, 8, 9, 10, 11, 12, 13, 14, 15, 6, 16, 17, 18, 19, 20, 21, 22, 23, 24, 25, 26, 27, 28, 29, 30, 31, 32, 33, 34, 35, 36, 37, 38, 39, 40, 41, 42, 43, 44, 45, 46, 47, 48, 49, 50, 51, 52, 53, 54, 55, 56, 57, 58, 59, 60, 61, 62, 63, 64, 65, 66, 67, 68, 69, 70, 71, 72, 73, 74, 75, 76, 77, 78, 79, 80, 81, 82, 83, 84, 85, 86, 87, 88, 89, 90, 91, 92, 93, 94, 95, 96, 97, 98, 99, 100, 101, 102, 103, 104, 105, 106, 107, 108, 109, 110, 111, 112, 113, 114, 115, 116, 117, 118, 119, 120, 121, 122, 123, 124, 125, 126, 127, 128, 129, 130, 131, 132, 133, 134, 135, 136, 137, 138, 139, 140, 141, 142, 143, 144, 145, 146, 147, 148, 149, 150, 151, 152, 153, 154, 155, 156, 157, 158, 159, 160, 161, 162, 163, 164, 165, 166, 167, 168, 169, 170, 171, 172, 173, 174, 175] (by decide +kernel) (by decide +kernel)) (goodIn_sub (fun _ h => List.mem_cons_of_mem _ (List.mem_append_left _ (List.mem_append_left _ (List.mem_append_right _ h)))) (by decide +kernel))) (goodIn_sub (fun _ h => List.mem_cons_of_mem _ (List.mem_append_left _ (List.mem_append_right _ h))) (by decide +kernel))) (goodIn_sub (fun _ h => List.mem_cons_of_mem _ (List.mem_append_left _ (List.mem_append_left _ (List.mem_append_left _ (List.mem_append_right _ h))))) (by decide +kernel))) (goodIn_sub (fun _ h => List.mem_cons_of_mem _ (List.mem_append_right _ h)) (by decide +kernel))
set_option maxRecDepth 20000 in
theorem gL_pass_X4_pass : GoodIn wsL_pass (wsV RL 70 RX4 yX4_pass wsX4_pass) := goodIn_app (goodIn_of _ (by decide +kernel)) ggL_pass_X4_pass
theorem dL_pass_0 : decode cL_pass 0 = .ok (.aload_n 2, 1) := by decide +kernel
theorem dL_pass_1 : decode cL_pass 1 = .ok (.iconst 0, 1) := by decide +kernel
theorem dL_pass_2 : decode cL_pass 2 = .ok (.aload_n 0, 1) := by decide +kernel
theorem dL_pass_3 : decode cL_pass 3 = .ok (.iload_n 1, 1) := by decide +kernel
theorem dL_pass_4 : decode cL_pass 4 = .ok (.invokevirtual 70, 3) := by decide +kernel
theorem dL_pass_7 : decode cL_pass 7 = .ok (.i2l, 1) := by decide +kernel
theorem dL_pass_8 : decode cL_pass 8 = .ok (.lastore, 1) := by decide +kernel
theorem dL_pass_9 : decode cL_pass 9 = .ok (.goto 9, 3) := by decide +kernel
theorem dL_pass_12 : decode cL_pass 12 = .ok (.astore_n 3, 1) := by decide +kernel
theorem dL_pass_13 : decode cL_pass 13 = .ok (.iconst 1, 1) := by decide +kernel
theorem dL_pass_14 : decode cL_pass 14 = .ok (.ireturn, 1) := by decide +kernel
theorem dL_pass_15 : decode cL_pass 15 = .ok (.astore_n 3, 1) := by decide +kernel
theorem dL_pass_16 : decode cL_pass 16 = .ok (.iconst 2, 1) := by decide +kernel
theorem dL_pass_17 : decode cL_pass 17 = .ok (.ireturn, 1) := by decide +kernel
theorem dL_pass_18 : decode cL_pass 18 = .ok (.iconst 0, 1) := by decide +kernel
theorem dL_pass_19 : decode cL_pass 19 = .ok (.ireturn, 1) := by decide +kernel
set_option maxRecDepth 20000 in
theorem ggL_made_X4_made : GoodIn wsL_made wsX4_made := goodIn_ca (goodIn_ca (goodIn_r _ [6, 7, 8, 9, 10, 11, 12, 13, 14, 15, 16, 17, 18, 19, 20, 21, 22, 23, 24, 25, 26, 27, 28, 29, 30, 31, 32, 33, 34, 35, 36, 37, 38, 39, 40] (by decide +kernel) (by decide +kernel)) (goodIn_sub (fun _ h => List.mem_cons_of_mem _ (List.mem_append_right _ h)) (by decide +kernel))) (goodIn_sub (fun _ h => List.mem_cons_of_mem _ (List.mem_append_left _ (List.mem_append_right _ h))) (by decide +kernel))
set_option maxRecDepth 20000 in
theorem gL_made_X4_made : GoodIn wsL_made (wsV RL 73 RX4 yX4_made wsX4_made) := goodIn_app (goodIn_of _ (by decide +kernel)) ggL_made_X4_made
theorem dL_made_0 : decode cL_made 0 = .ok (.aload_n 2, 1) := by decide +kernel
theorem dL_made_1 : decode cL_made 1 = .ok (.iconst 0, 1) := by decide +kernel
theorem dL_made_2 : decode cL_made 2 = .ok (.aload_n 0, 1) := by decide +kernel
theorem dL_made_3 : decode cL_made 3 = .ok (.iload_n 1, 1) := by decide +kernel
theorem dL_made_4 : decode cL_made 4 = .ok (.invokevirtual 73, 3) := by decide +kernel
theorem dL_made_7 : decode cL_made 7 = .ok (.i2l, 1) := by decide +kernel
theorem dL_made_8 : decode cL_made 8 = .ok (.lastore, 1) := by decide +kernel
theorem dL_made_9 : decode cL_made 9 = .ok (.goto 6, 3) := by decide +kernel
theorem dL_made_12 : decode cL_made 12 = .ok (.astore_n 3, 1) := by decide +kernel
theorem dL_made_13 : decode cL_made 13 = .ok (.iconst 1, 1) := by decide +kernel
theorem dL_made_14 : decode cL_made 14 = .ok (.ireturn, 1) := by decide +kernel
theorem dL_made_15 : decode cL_made 15 = .ok (.iconst 0, 1) := by decide +kernel
theorem dL_made_16 : decode cL_made 16 = .ok (.ireturn, 1) := by decide +kernel
set_option maxRecDepth 20000 in
theorem ggL_paperShare_X4_paperShare : GoodIn wsL_paperShare wsX4_paperShare := goodIn_ca (goodIn_r _ [6, 7, 8, 9, 10, 11, 12, 13, 14, 15, 16, 17, 18, 19, 20, 21, 22, 23, 24, 25, 26, 27, 28, 29, 30, 31, 32, 33, 34, 35] (by decide +kernel) (by decide +kernel)) (goodIn_sub (fun _ h => List.mem_cons_of_mem _ (List.mem_append_right _ h)) (by decide +kernel))
set_option maxRecDepth 20000 in
theorem gL_paperShare_X4_paperShare : GoodIn wsL_paperShare (wsV RL 77 RX4 yX4_paperShare wsX4_paperShare) := goodIn_app (goodIn_of _ (by decide +kernel)) ggL_paperShare_X4_paperShare
theorem dL_paperShare_0 : decode cL_paperShare 0 = .ok (.aload_n 1, 1) := by decide +kernel
theorem dL_paperShare_1 : decode cL_paperShare 1 = .ok (.iconst 0, 1) := by decide +kernel
theorem dL_paperShare_2 : decode cL_paperShare 2 = .ok (.aload_n 0, 1) := by decide +kernel
theorem dL_paperShare_3 : decode cL_paperShare 3 = .ok (.invokevirtual 77, 3) := by decide +kernel
theorem dL_paperShare_6 : decode cL_paperShare 6 = .ok (.f2d, 1) := by decide +kernel
theorem dL_paperShare_7 : decode cL_paperShare 7 = .ok (.dastore, 1) := by decide +kernel
theorem dL_paperShare_8 : decode cL_paperShare 8 = .ok (.goto 6, 3) := by decide +kernel
theorem dL_paperShare_11 : decode cL_paperShare 11 = .ok (.astore_n 2, 1) := by decide +kernel
theorem dL_paperShare_12 : decode cL_paperShare 12 = .ok (.iconst 1, 1) := by decide +kernel
theorem dL_paperShare_13 : decode cL_paperShare 13 = .ok (.ireturn, 1) := by decide +kernel
theorem dL_paperShare_14 : decode cL_paperShare 14 = .ok (.iconst 0, 1) := by decide +kernel
theorem dL_paperShare_15 : decode cL_paperShare 15 = .ok (.ireturn, 1) := by decide +kernel
set_option maxRecDepth 20000 in
theorem ggL_meanTrim_X4_meanTrim : GoodIn wsL_meanTrim wsX4_meanTrim := goodIn_ca (goodIn_r _ [6, 7, 8, 9, 10, 11, 12, 13, 14, 15, 16, 17, 18, 19, 20, 21, 22, 23, 24, 25, 26, 27, 28, 29, 30, 31, 32, 33, 34, 35] (by decide +kernel) (by decide +kernel)) (goodIn_sub (fun _ h => List.mem_cons_of_mem _ (List.mem_append_right _ h)) (by decide +kernel))
set_option maxRecDepth 20000 in
theorem gL_meanTrim_X4_meanTrim : GoodIn wsL_meanTrim (wsV RL 83 RX4 yX4_meanTrim wsX4_meanTrim) := goodIn_app (goodIn_of _ (by decide +kernel)) ggL_meanTrim_X4_meanTrim
theorem dL_meanTrim_0 : decode cL_meanTrim 0 = .ok (.aload_n 1, 1) := by decide +kernel
theorem dL_meanTrim_1 : decode cL_meanTrim 1 = .ok (.iconst 0, 1) := by decide +kernel
theorem dL_meanTrim_2 : decode cL_meanTrim 2 = .ok (.aload_n 0, 1) := by decide +kernel
theorem dL_meanTrim_3 : decode cL_meanTrim 3 = .ok (.invokevirtual 83, 3) := by decide +kernel
theorem dL_meanTrim_6 : decode cL_meanTrim 6 = .ok (.dastore, 1) := by decide +kernel
theorem dL_meanTrim_7 : decode cL_meanTrim 7 = .ok (.goto 6, 3) := by decide +kernel
theorem dL_meanTrim_10 : decode cL_meanTrim 10 = .ok (.astore_n 2, 1) := by decide +kernel
theorem dL_meanTrim_11 : decode cL_meanTrim 11 = .ok (.iconst 1, 1) := by decide +kernel
theorem dL_meanTrim_12 : decode cL_meanTrim 12 = .ok (.ireturn, 1) := by decide +kernel
theorem dL_meanTrim_13 : decode cL_meanTrim 13 = .ok (.iconst 0, 1) := by decide +kernel
theorem dL_meanTrim_14 : decode cL_meanTrim 14 = .ok (.ireturn, 1) := by decide +kernel
set_option maxRecDepth 20000 in
theorem ggL_law_X4_init : GoodIn wsL_law wsX4_init := goodIn_r _ [10, 11, 12, 13, 14, 15, 16, 17, 18, 19, 20, 21, 22, 23, 24, 25, 26, 27, 28, 29, 30, 31, 32, 33, 34, 35, 36, 37, 38, 39, 40, 41, 42, 43, 44, 45, 46, 47, 48, 49, 50, 51, 52, 53, 54, 55, 56, 57, 58, 59, 60, 61, 62, 63, 64, 65, 622, 623, 624, 625, 626, 627, 628, 629, 630, 631, 632, 633, 634, 664, 665, 666, 667, 668, 669, 670, 671, 672, 673, 674, 675, 676, 677, 678, 679, 680, 681, 682, 683, 684, 685, 686, 687, 688, 689, 690] (by decide +kernel) (by decide +kernel)
set_option maxRecDepth 20000 in
theorem gL_law_X4_init : GoodIn wsL_law (wsX4_init) := ggL_law_X4_init
set_option maxRecDepth 20000 in
theorem ggL_law_X5_init : GoodIn wsL_law wsX5_init := goodIn_r _ [68, 69, 12, 13, 14, 70, 71, 72, 73, 74, 75, 76, 77, 78, 79, 80, 81, 61, 82, 83, 84, 635, 636, 637, 638, 639, 640, 641, 642, 643, 644, 645, 646, 647, 648, 649, 650, 651, 652, 653, 654, 655, 656, 657, 658, 659, 660, 661, 662, 663] (by decide +kernel) (by decide +kernel)
set_option maxRecDepth 20000 in
theorem gL_law_X5_init : GoodIn wsL_law (wsX5_init) := ggL_law_X5_init
set_option maxRecDepth 20000 in
theorem ggL_law_L_addGrade : GoodIn wsL_law wsL_addGrade := goodIn_ca (goodIn_ca (goodIn_ca (goodIn_r _ [88, 89, 90, 91, 92, 93, 2, 94, 95, 96, 97, 98, 99, 15, 100, 101, 102, 103, 104, 105, 106, 622, 623, 624, 625, 626, 627, 628, 629, 630, 631, 632, 633, 634] (by decide +kernel) (by decide +kernel)) (goodIn_sub (fun _ h => List.mem_append_left _ (List.mem_append_left _ (List.mem_append_left _ (List.mem_append_left _ (List.mem_append_left _ (List.mem_append_left _ (List.mem_append_left _ (List.mem_append_right _ h)))))))) (by decide +kernel))) (goodIn_sub (fun _ h => List.mem_append_left _ (List.mem_append_left _ (List.mem_append_left _ (List.mem_append_left _ (List.mem_append_left _ (List.mem_append_left _ (List.mem_append_right _ h))))))) (by decide +kernel))) (goodIn_sub (fun _ h => List.mem_append_left _ (List.mem_append_left _ (List.mem_append_left _ (List.mem_append_left _ (List.mem_append_left _ (List.mem_append_right _ h)))))) (by decide +kernel))
set_option maxRecDepth 20000 in
theorem gL_law_L_addGrade : GoodIn wsL_law (va_wsS RL 91 yL_addGrade wsL_addGrade) := goodIn_app (goodIn_of _ (by decide +kernel)) ggL_law_L_addGrade
set_option maxRecDepth 20000 in
theorem ggL_law_X5_addGrade : GoodIn wsL_law wsX5_addGrade := goodIn_ca (goodIn_r _ [110, 111, 70, 112, 113, 5, 114, 115, 116, 117, 118, 119, 120, 121, 122, 123, 635, 636, 637, 638, 639, 640, 641, 642, 643, 644, 645, 646, 647, 648, 649, 650, 651, 652, 653, 654, 655, 656, 657, 658, 659, 660, 661, 662, 663] (by decide +kernel) (by decide +kernel)) (goodIn_sub (fun _ h => List.mem_append_left _ (List.mem_append_left _ (List.mem_append_left _ (List.mem_append_left _ (List.mem_append_left _ (List.mem_append_left _ (List.mem_append_left _ (List.mem_append_right _ h)))))))) (by decide +kernel))
set_option maxRecDepth 20000 in
theorem gL_law_X5_addGrade : GoodIn wsL_law (wsV RL 96 RX5 yX5_addGrade wsX5_addGrade) := goodIn_app (goodIn_of _ (by decide +kernel)) ggL_law_X5_addGrade
set_option maxRecDepth 20000 in
theorem ggL_law_X5_thrown : GoodIn wsL_law wsX5_thrown := goodIn_r _ [127, 123, 635, 636, 637, 638, 639, 640, 641, 642, 643, 644, 645, 646, 647, 648, 649, 650, 651, 652, 653, 654, 655, 656, 657, 658, 659, 660, 661, 662, 663] (by decide +kernel) (by decide +kernel)
set_option maxRecDepth 20000 in
theorem gL_law_X5_thrown : GoodIn wsL_law (wsV RL 97 RX5 yX5_thrown wsX5_thrown) := goodIn_app (goodIn_of _ (by decide +kernel)) ggL_law_X5_thrown
set_option maxRecDepth 20000 in
theorem ggL_law_L_setWidth : GoodIn wsL_law wsL_setWidth := goodIn_ca (goodIn_ca (goodIn_ca (goodIn_r _ [130, 89, 90, 131, 132, 133, 2, 134, 95, 96, 97, 98, 22, 16, 100, 101, 102, 135, 136, 137, 21, 138, 139, 42, 40, 140, 141, 142, 143, 622, 623, 624, 625, 626, 627, 628, 629, 630, 631, 632, 633, 634, 664, 665, 666, 667, 668] (by decide +kernel) (by decide +kernel)) (goodIn_sub (fun _ h => List.mem_append_left _ (List.mem_append_left _ (List.mem_append_left _ (List.mem_append_left _ (List.mem_append_left _ (List.mem_append_left _ (List.mem_append_left _ (List.mem_append_right _ h)))))))) (by decide +kernel))) (goodIn_sub (fun _ h => List.mem_append_left _ (List.mem_append_left _ (List.mem_append_left _ (List.mem_append_left _ (List.mem_append_left _ (List.mem_append_left _ (List.mem_append_right _ h))))))) (by decide +kernel))) (goodIn_sub (fun _ h => List.mem_append_left _ (List.mem_append_left _ (List.mem_append_left _ (List.mem_append_left _ (List.mem_append_left _ (List.mem_append_right _ h)))))) (by decide +kernel))
set_option maxRecDepth 20000 in
theorem gL_law_L_setWidth : GoodIn wsL_law (va_wsS RL 100 yL_setWidth wsL_setWidth) := goodIn_app (goodIn_of _ (by decide +kernel)) ggL_law_L_setWidth
set_option maxRecDepth 20000 in
theorem ggL_law_X5_setWidth : GoodIn wsL_law wsX5_setWidth := goodIn_ca (goodIn_r _ [147, 148, 76, 75, 71, 112, 113, 5, 114, 119, 120, 121, 122, 123, 635, 636, 637, 638, 639, 640, 641, 642, 643, 644, 645, 646, 647, 648, 649, 650, 651, 652, 653, 654, 655, 656, 657, 658, 659, 660, 661, 662, 663] (by decide +kernel) (by decide +kernel)) (goodIn_sub (fun _ h => List.mem_append_left _ (List.mem_append_left _ (List.mem_append_left _ (List.mem_append_left _ (List.mem_append_left _ (List.mem_append_left _ (List.mem_append_left _ (List.mem_append_right _ h)))))))) (by decide +kernel))
set_option maxRecDepth 20000 in
theorem gL_law_X5_setWidth : GoodIn wsL_law (wsV RL 102 RX5 yX5_setWidth wsX5_setWidth) := goodIn_app (goodIn_of _ (by decide +kernel)) ggL_law_X5_setWidth
set_option maxRecDepth 20000 in
theorem ggL_law_L_change : GoodIn wsL_law wsL_change := goodIn_ca (goodIn_ca (goodIn_ca (goodIn_ca (goodIn_r _ [151, 152, 89, 90, 153, 154, 155, 2, 156, 157, 158, 95, 96, 97, 98, 17, 159, 15, 160, 161, 142, 162, 18, 163, 164, 165, 166, 99, 622, 623, 624, 625, 626, 627, 628, 629, 630, 631, 632, 633, 634] (by decide +kernel) (by decide +kernel)) (goodIn_sub (fun _ h => List.mem_append_left _ (List.mem_append_left _ (List.mem_append_left _ (List.mem_append_left _ (List.mem_append_left _ (List.mem_append_left _ (List.mem_append_left _ (List.mem_append_right _ h)))))))) (by decide +kernel))) (goodIn_sub (fun _ h => List.mem_append_left _ (List.mem_append_left _ (List.mem_append_left _ (List.mem_append_left _ (List.mem_append_right _ h))))) (by decide +kernel))) (goodIn_sub (fun _ h => List.mem_append_left _ (List.mem_append_left _ (List.mem_append_left _ (List.mem_append_left _ (List.mem_append_left _ (List.mem_append_left _ (List.mem_append_right _ h))))))) (by decide +kernel))) (goodIn_sub (fun _ h => List.mem_append_left _ (List.mem_append_left _ (List.mem_append_left _ (List.mem_append_left _ (List.mem_append_left _ (List.mem_append_right _ h)))))) (by decide +kernel))
set_option maxRecDepth 20000 in
theorem gL_law_L_change : GoodIn wsL_law (va_wsS RL 103 yL_change wsL_change) := goodIn_app (goodIn_of _ (by decide +kernel)) ggL_law_L_change
set_option maxRecDepth 20000 in
theorem ggL_law_X5_change : GoodIn wsL_law wsX5_change := goodIn_ca (goodIn_r _ [170, 72, 171, 70, 73, 172, 173, 174, 5, 175, 111, 112, 113, 114, 119, 120, 121, 122, 123, 635, 636, 637, 638, 639, 640, 641, 642, 643, 644, 645, 646, 647, 648, 649, 650, 651, 652, 653, 654, 655, 656, 657, 658, 659, 660, 661, 662, 663] (by decide +kernel) (by decide +kernel)) (goodIn_sub (fun _ h => List.mem_append_left _ (List.mem_append_left _ (List.mem_append_left _ (List.mem_append_left _ (List.mem_append_left _ (List.mem_append_left _ (List.mem_append_left _ (List.mem_append_right _ h)))))))) (by decide +kernel))
set_option maxRecDepth 20000 in
theorem gL_law_X5_change : GoodIn wsL_law (wsV RL 105 RX5 yX5_change wsX5_change) := goodIn_app (goodIn_of _ (by decide +kernel)) ggL_law_X5_change
set_option maxRecDepth 20000 in
theorem ggL_law_L_grade : GoodIn wsL_law wsL_grade := goodIn_ca (goodIn_ca (goodIn_r _ [178, 179, 180, 181, 182, 2, 183, 184, 185, 17, 163, 164, 165, 166, 99, 622, 623, 624, 625, 626, 627, 628, 629, 630, 631, 632, 633, 634] (by decide +kernel) (by decide +kernel)) (goodIn_sub (fun _ h => List.mem_append_left _ (List.mem_append_left _ (List.mem_append_left _ (List.mem_append_left _ (List.mem_append_left _ (List.mem_append_left _ (List.mem_append_left _ (List.mem_append_right _ h)))))))) (by decide +kernel))) (goodIn_sub (fun _ h => List.mem_append_left _ (List.mem_append_left _ (List.mem_append_left _ (List.mem_append_right _ h)))) (by decide +kernel))
set_option maxRecDepth 20000 in
theorem gL_law_L_grade : GoodIn wsL_law (va_wsS RL 106 yL_grade wsL_grade) := goodIn_app (goodIn_of _ (by decide +kernel)) ggL_law_L_grade
set_option maxRecDepth 20000 in
theorem ggL_law_X5_grade : GoodIn wsL_law wsX5_grade := goodIn_r _ [189, 72, 119, 120, 121, 5, 122, 123, 635, 636, 637, 638, 639, 640, 641, 642, 643, 644, 645, 646, 647, 648, 649, 650, 651, 652, 653, 654, 655, 656, 657, 658, 659, 660, 661, 662, 663] (by decide +kernel) (by decide +kernel)
set_option maxRecDepth 20000 in
theorem gL_law_X5_grade : GoodIn wsL_law (wsV RL 109 RX5 yX5_grade wsX5_grade) := goodIn_app (goodIn_of _ (by decide +kernel)) ggL_law_X5_grade
set_option maxRecDepth 20000 in
theorem ggL_law_X4_changing : GoodIn wsL_law wsX4_changing := goodIn_r _ [193, 159, 622, 623, 624, 625, 626, 627, 628, 629, 630, 631, 632, 633, 634] (by decide +kernel) (by decide +kernel)
set_option maxRecDepth 20000 in
theorem gL_law_X4_changing : GoodIn wsL_law (wsV RL 110 RX4 yX4_changing wsX4_changing) := goodIn_app (goodIn_of _ (by decide +kernel)) ggL_law_X4_changing
set_option maxRecDepth 20000 in
theorem ggL_law_X5_changing : GoodIn wsL_law wsX5_changing := goodIn_r _ [197, 123, 171, 635, 636, 637, 638, 639, 640, 641, 642, 643, 644, 645, 646, 647, 648, 649, 650, 651, 652, 653, 654, 655, 656, 657, 658, 659, 660, 661, 662, 663] (by decide +kernel) (by decide +kernel)
set_option maxRecDepth 20000 in
theorem gL_law_X5_changing : GoodIn wsL_law (wsV RL 113 RX5 yX5_changing wsX5_changing) := goodIn_app (goodIn_of _ (by decide +kernel)) ggL_law_X5_changing
set_option maxRecDepth 20000 in
theorem ggL_law_L_next : GoodIn wsL_law wsL_next := goodIn_ca (goodIn_ca (goodIn_r _ [200, 179, 201, 202, 203, 2, 204, 184, 185, 17, 15, 18, 163, 164, 165, 166, 99, 205, 206, 207, 208, 22, 209, 210, 211, 21, 212, 139, 39, 42, 622, 623, 624, 625, 626, 627, 628, 629, 630, 631, 632, 633, 634, 664, 665, 666, 667, 668] (by decide +kernel) (by decide +kernel)) (goodIn_sub (fun _ h => List.mem_append_left _ (List.mem_append_left _ (List.mem_append_left _ (List.mem_append_left _ (List.mem_append_left _ (List.mem_append_left _ (List.mem_append_left _ (List.mem_append_right _ h)))))))) (by decide +kernel))) (goodIn_sub (fun _ h => List.mem_append_left _ (List.mem_append_left _ (List.mem_append_left _ (List.mem_append_right _ h)))) (by decide +kernel))
set_option maxRecDepth 20000 in
theorem gL_law_L_next : GoodIn wsL_law (va_wsS RL 114 yL_next wsL_next) := goodIn_app (goodIn_of _ (by decide +kernel)) ggL_law_L_next
set_option maxRecDepth 20000 in
theorem ggL_law_X5_next : GoodIn wsL_law wsX5_next := goodIn_ca (goodIn_r _ [216, 72, 70, 73, 217, 218, 219, 5, 220, 111, 221, 222, 223, 224, 148, 74, 76, 119, 120, 121, 122, 123, 635, 636, 637, 638, 639, 640, 641, 642, 643, 644, 645, 646, 647, 648, 649, 650, 651, 652, 653, 654, 655, 656, 657, 658, 659, 660, 661, 662, 663] (by decide +kernel) (by decide +kernel)) (goodIn_sub (fun _ h => List.mem_append_left _ (List.mem_append_left _ (List.mem_append_left _ (List.mem_append_left _ (List.mem_append_left _ (List.mem_append_left _ (List.mem_append_left _ (List.mem_append_right _ h)))))))) (by decide +kernel))
set_option maxRecDepth 20000 in
theorem gL_law_X5_next : GoodIn wsL_law (wsV RL 116 RX5 yX5_next wsX5_next) := goodIn_app (goodIn_of _ (by decide +kernel)) ggL_law_X5_next
set_option maxRecDepth 20000 in
theorem ggL_law_L_mass : GoodIn wsL_law wsL_mass := goodIn_ca (goodIn_ca (goodIn_r _ [227, 152, 228, 229, 230, 2, 231, 157, 158, 163, 164, 165, 166, 99, 232, 233, 234, 235, 15, 16, 622, 623, 624, 625, 626, 627, 628, 629, 630, 631, 632, 633, 634] (by decide +kernel) (by decide +kernel)) (goodIn_sub (fun _ h => List.mem_append_left _ (List.mem_append_left _ (List.mem_append_left _ (List.mem_append_left _ (List.mem_append_left _ (List.mem_append_left _ (List.mem_append_left _ (List.mem_append_right _ h)))))))) (by decide +kernel))) (goodIn_sub (fun _ h => List.mem_append_left _ (List.mem_append_left _ (List.mem_append_left _ (List.mem_append_left _ (List.mem_append_right _ h))))) (by decide +kernel))
set_option maxRecDepth 20000 in
theorem gL_law_L_mass : GoodIn wsL_law (va_wsS RL 117 yL_mass wsL_mass) := goodIn_app (goodIn_of _ (by decide +kernel)) ggL_law_L_mass
set_option maxRecDepth 20000 in
theorem ggL_law_X5_mass : GoodIn wsL_law wsX5_mass := goodIn_ca (goodIn_r _ [239, 172, 173, 174, 5, 175, 111, 112, 113, 114, 119, 120, 121, 122, 123, 240, 241, 242, 243, 70, 71, 635, 636, 637, 638, 639, 640, 641, 642, 643, 644, 645, 646, 647, 648, 649, 650, 651, 652, 653, 654, 655, 656, 657, 658, 659, 660, 661, 662, 663] (by decide +kernel) (by decide +kernel)) (goodIn_sub (fun _ h => List.mem_append_left _ (List.mem_append_left _ (List.mem_append_left _ (List.mem_append_left _ (List.mem_append_left _ (List.mem_append_left _ (List.mem_append_left _ (List.mem_append_right _ h)))))))) (by decide +kernel))
set_option maxRecDepth 20000 in
theorem gL_law_X5_mass : GoodIn wsL_law (wsV RL 119 RX5 yX5_mass wsX5_mass) := goodIn_app (goodIn_of _ (by decide +kernel)) ggL_law_X5_mass
set_option maxRecDepth 20000 in
theorem ggL_law_L_order : GoodIn wsL_law wsL_order := goodIn_ca (goodIn_ca (goodIn_ca (goodIn_ca (goodIn_ca (goodIn_r _ [246, 152, 89, 247, 90, 248, 249, 250, 2, 251, 157, 158, 95, 96, 252, 253, 97, 98, 16, 22, 163, 164, 165, 166, 99, 100, 101, 102, 254, 255, 256, 21, 257, 139, 258, 259, 260, 261, 39, 40, 41, 42, 262, 622, 623, 624, 625, 626, 627, 628, 629, 630, 631, 632, 633, 634, 664, 665, 666, 667, 668] (by decide +kernel) (by decide +kernel)) (goodIn_sub (fun _ h => List.mem_append_left _ (List.mem_append_left _ (List.mem_append_left _ (List.mem_append_left _ (List.mem_append_left _ (List.mem_append_left _ (List.mem_append_left _ (List.mem_append_right _ h)))))))) (by decide +kernel))) (goodIn_sub (fun _ h => List.mem_append_left _ (List.mem_append_left _ (List.mem_append_left _ (List.mem_append_left _ (List.mem_append_right _ h))))) (by decide +kernel))) (goodIn_sub (fun _ h => List.mem_append_left _ (List.mem_append_left _ (List.mem_append_left _ (List.mem_append_left _ (List.mem_append_left _ (List.mem_append_left _ (List.mem_append_right _ h))))))) (by decide +kernel))) (goodIn_sub (fun _ h => List.mem_append_left _ (List.mem_append_left _ (List.mem_append_right _ h))) (by decide +kernel))) (goodIn_sub (fun _ h => List.mem_append_left _ (List.mem_append_left _ (List.mem_append_left _ (List.mem_append_left _ (List.mem_append_left _ (List.mem_append_right _ h)))))) (by decide +kernel))
set_option maxRecDepth 20000 in
theorem gL_law_L_order : GoodIn wsL_law (va_wsS RL 120 yL_order wsL_order) := goodIn_app (goodIn_of _ (by decide +kernel)) ggL_law_L_order
set_option maxRecDepth 20000 in
theorem ggL_law_X5_order : GoodIn wsL_law wsX5_order := goodIn_ca (goodIn_r _ [266, 71, 148, 74, 75, 76, 172, 173, 174, 5, 175, 111, 112, 113, 114, 119, 120, 121, 122, 123, 635, 636, 637, 638, 639, 640, 641, 642, 643, 644, 645, 646, 647, 648, 649, 650, 651, 652, 653, 654, 655, 656, 657, 658, 659, 660, 661, 662, 663] (by decide +kernel) (by decide +kernel)) (goodIn_sub (fun _ h => List.mem_append_left _ (List.mem_append_left _ (List.mem_append_left _ (List.mem_append_left _ (List.mem_append_left _ (List.mem_append_left _ (List.mem_append_left _ (List.mem_append_right _ h)))))))) (by decide +kernel))
set_option maxRecDepth 20000 in
theorem gL_law_X5_order : GoodIn wsL_law (wsV RL 123 RX5 yX5_order wsX5_order) := goodIn_app (goodIn_of _ (by decide +kernel)) ggL_law_X5_order
set_option maxRecDepth 20000 in
theorem ggL_law_L_cancel : GoodIn wsL_law wsL_cancel := goodIn_ca (goodIn_ca (goodIn_ca (goodIn_r _ [269, 152, 90, 270, 271, 272, 2, 273, 157, 158, 97, 98, 22, 274, 275, 276, 277, 21, 278, 139, 622, 623, 624, 625, 626, 627, 628, 629, 630, 631, 632, 633, 634, 664, 665, 666, 667, 668] (by decide +kernel) (by decide +kernel)) (goodIn_sub (fun _ h => List.mem_append_left _ (List.mem_append_left _ (List.mem_append_left _ (List.mem_append_left _ (List.mem_append_left _ (List.mem_append_left _ (List.mem_append_left _ (List.mem_append_right _ h)))))))) (by decide +kernel))) (goodIn_sub (fun _ h => List.mem_append_left _ (List.mem_append_left _ (List.mem_append_left _ (List.mem_append_left _ (List.mem_append_right _ h))))) (by decide +kernel))) (goodIn_sub (fun _ h => List.mem_append_left _ (List.mem_append_left _ (List.mem_append_left _ (List.mem_append_left _ (List.mem_append_left _ (List.mem_append_right _ h)))))) (by decide +kernel))
set_option maxRecDepth 20000 in
theorem gL_law_L_cancel : GoodIn wsL_law (va_wsS RL 124 yL_cancel wsL_cancel) := goodIn_app (goodIn_of _ (by decide +kernel)) ggL_law_L_cancel
set_option maxRecDepth 20000 in
theorem ggL_law_X5_cancel : GoodIn wsL_law wsX5_cancel := goodIn_ca (goodIn_r _ [282, 76, 283, 284, 285, 5, 286, 148, 112, 113, 114, 119, 120, 121, 122, 123, 635, 636, 637, 638, 639, 640, 641, 642, 643, 644, 645, 646, 647, 648, 649, 650, 651, 652, 653, 654, 655, 656, 657, 658, 659, 660, 661, 662, 663] (by decide +kernel) (by decide +kernel)) (goodIn_sub (fun _ h => List.mem_append_left _ (List.mem_append_left _ (List.mem_append_left _ (List.mem_append_left _ (List.mem_append_left _ (List.mem_append_left _ (List.mem_append_left _ (List.mem_append_right _ h)))))))) (by decide +kernel))
set_option maxRecDepth 20000 in
theorem gL_law_X5_cancel : GoodIn wsL_law (wsV RL 126 RX5 yX5_cancel wsX5_cancel) := goodIn_app (goodIn_of _ (by decide +kernel)) ggL_law_X5_cancel
set_option maxRecDepth 20000 in
theorem ggL_law_L_cut : GoodIn wsL_law wsL_cut := goodIn_ca (goodIn_ca (goodIn_r _ [289, 152, 290, 291, 292, 2, 293, 157, 158, 22, 294, 275, 276, 277, 21, 278, 139, 622, 623, 624, 625, 626, 627, 628, 629, 630, 631, 632, 633, 634, 664, 665, 666, 667, 668] (by decide +kernel) (by decide +kernel)) (goodIn_sub (fun _ h => List.mem_append_left _ (List.mem_append_left _ (List.mem_append_left _ (List.mem_append_left _ (List.mem_append_left _ (List.mem_append_left _ (List.mem_append_left _ (List.mem_append_right _ h)))))))) (by decide +kernel))) (goodIn_sub (fun _ h => List.mem_append_left _ (List.mem_append_left _ (List.mem_append_left _ (List.mem_append_left _ (List.mem_append_right _ h))))) (by decide +kernel))
set_option maxRecDepth 20000 in
theorem gL_law_L_cut : GoodIn wsL_law (va_wsS RL 127 yL_cut wsL_cut) := goodIn_app (goodIn_of _ (by decide +kernel)) ggL_law_L_cut
set_option maxRecDepth 20000 in
theorem ggL_law_X5_cut : GoodIn wsL_law wsX5_cut := goodIn_ca (goodIn_r _ [298, 77, 283, 284, 285, 5, 286, 148, 112, 113, 114, 119, 120, 121, 122, 123, 635, 636, 637, 638, 639, 640, 641, 642, 643, 644, 645, 646, 647, 648, 649, 650, 651, 652, 653, 654, 655, 656, 657, 658, 659, 660, 661, 662, 663] (by decide +kernel) (by decide +kernel)) (goodIn_sub (fun _ h => List.mem_append_left _ (List.mem_append_left _ (List.mem_append_left _ (List.mem_append_left _ (List.mem_append_left _ (List.mem_append_left _ (List.mem_append_left _ (List.mem_append_right _ h)))))))) (by decide +kernel))
set_option maxRecDepth 20000 in
theorem gL_law_X5_cut : GoodIn wsL_law (wsV RL 129 RX5 yX5_cut wsX5_cut) := goodIn_app (goodIn_of _ (by decide +kernel)) ggL_law_X5_cut
set_option maxRecDepth 20000 in
theorem ggL_law_L_lacks : GoodIn wsL_law wsL_lacks := goodIn_ca (goodIn_ca (goodIn_r _ [301, 152, 302, 303, 304, 2, 305, 157, 158, 22, 274, 275, 276, 277, 21, 278, 139, 622, 623, 624, 625, 626, 627, 628, 629, 630, 631, 632, 633, 634, 664, 665, 666, 667, 668] (by decide +kernel) (by decide +kernel)) (goodIn_sub (fun _ h => List.mem_append_left _ (List.mem_append_left _ (List.mem_append_left _ (List.mem_append_left _ (List.mem_append_left _ (List.mem_append_left _ (List.mem_append_left _ (List.mem_append_right _ h)))))))) (by decide +kernel))) (goodIn_sub (fun _ h => List.mem_append_left _ (List.mem_append_left _ (List.mem_append_left _ (List.mem_append_left _ (List.mem_append_right _ h))))) (by decide +kernel))
set_option maxRecDepth 20000 in
theorem gL_law_L_lacks : GoodIn wsL_law (va_wsS RL 130 yL_lacks wsL_lacks) := goodIn_app (goodIn_of _ (by decide +kernel)) ggL_law_L_lacks
set_option maxRecDepth 20000 in
theorem ggL_law_X5_lacks : GoodIn wsL_law wsX5_lacks := goodIn_ca (goodIn_r _ [309, 76, 283, 284, 285, 5, 286, 148, 112, 113, 114, 119, 120, 121, 122, 123, 635, 636, 637, 638, 639, 640, 641, 642, 643, 644, 645, 646, 647, 648, 649, 650, 651, 652, 653, 654, 655, 656, 657, 658, 659, 660, 661, 662, 663] (by decide +kernel) (by decide +kernel)) (goodIn_sub (fun _ h => List.mem_append_left _ (List.mem_append_left _ (List.mem_append_left _ (List.mem_append_left _ (List.mem_append_left _ (List.mem_append_left _ (List.mem_append_left _ (List.mem_append_right _ h)))))))) (by decide +kernel))
set_option maxRecDepth 20000 in
theorem gL_law_X5_lacks : GoodIn wsL_law (wsV RL 132 RX5 yX5_lacks wsX5_lacks) := goodIn_app (goodIn_of _ (by decide +kernel)) ggL_law_X5_lacks
set_option maxRecDepth 20000 in
theorem ggL_law_L_trim : GoodIn wsL_law wsL_trim := goodIn_ca (goodIn_ca (goodIn_r _ [312, 152, 313, 314, 315, 2, 316, 157, 158, 26, 22, 16, 163, 164, 165, 166, 99, 317, 318, 319, 25, 320, 321, 322, 142, 323, 324, 141, 143, 325, 326, 48, 327, 49, 328, 50, 329, 276, 277, 21, 278, 139, 330, 331, 332, 333, 334, 46, 335, 336, 337, 338, 339, 340, 341, 47, 342, 343, 344, 345, 346, 347, 348, 349, 622, 623, 624, 625, 626, 627, 628, 629, 630, 631, 632, 633, 634, 669, 670, 671, 672, 673, 674, 675, 676, 664, 665, 666, 667, 668] (by decide +kernel) (by decide +kernel)) (goodIn_sub (fun _ h => List.mem_append_left _ (List.mem_append_left _ (List.mem_append_left _ (List.mem_append_left _ (List.mem_append_left _ (List.mem_append_left _ (List.mem_append_left _ (List.mem_append_right _ h)))))))) (by decide +kernel))) (goodIn_sub (fun _ h => List.mem_append_left _ (List.mem_append_left _ (List.mem_append_left _ (List.mem_append_left _ (List.mem_append_right _ h))))) (by decide +kernel))
set_option maxRecDepth 20000 in
theorem gL_law_L_trim : GoodIn wsL_law (va_wsS RL 133 yL_trim wsL_trim) := goodIn_app (goodIn_of _ (by decide +kernel)) ggL_law_L_trim
set_option maxRecDepth 20000 in
theorem ggL_law_X5_trim : GoodIn wsL_law wsX5_trim := goodIn_ca (goodIn_ca (goodIn_r _ [353, 71, 172, 173, 174, 5, 175, 111, 112, 113, 114, 119, 120, 121, 122, 123, 354, 355, 356, 357, 358, 359, 360, 361, 362, 148, 84, 83, 74, 76, 75, 635, 636, 637, 638, 639, 640, 641, 642, 643, 644, 645, 646, 647, 648, 649, 650, 651, 652, 653, 654, 655, 656, 657, 658, 659, 660, 661, 662, 663] (by decide +kernel) (by decide +kernel)) (goodIn_sub (fun _ h => List.mem_append_left _ (List.mem_append_left _ (List.mem_append_left _ (List.mem_append_left _ (List.mem_append_left _ (List.mem_append_left _ (List.mem_append_left _ (List.mem_append_right _ h)))))))) (by decide +kernel))) (goodIn_sub (fun _ h => List.mem_append_left _ (List.mem_append_right _ h)) (by decide +kernel))
set_option maxRecDepth 20000 in
theorem gL_law_X5_trim : GoodIn wsL_law (wsV RL 135 RX5 yX5_trim wsX5_trim) := goodIn_app (goodIn_of _ (by decide +kernel)) ggL_law_X5_trim
set_option maxRecDepth 20000 in
theorem ggL_law_L_trimByTable : GoodIn wsL_law wsL_trimByTable := goodIn_ca (goodIn_ca (goodIn_r _ [365, 152, 366, 367, 368, 2, 369, 157, 158, 26, 22, 16, 163, 164, 165, 166, 99, 317, 318, 319, 25, 320, 321, 322, 142, 323, 324, 141, 143, 325, 326, 48, 327, 49, 328, 50, 329, 276, 277, 21, 278, 139, 370, 371, 372, 373, 51, 335, 336, 337, 338, 374, 375, 376, 377, 622, 623, 624, 625, 626, 627, 628, 629, 630, 631, 632, 633, 634, 669, 670, 671, 672, 673, 674, 675, 676, 664, 665, 666, 667, 668] (by decide +kernel) (by decide +kernel)) (goodIn_sub (fun _ h => List.mem_append_left _ (List.mem_append_left _ (List.mem_append_left _ (List.mem_append_left _ (List.mem_append_left _ (List.mem_append_left _ (List.mem_append_left _ (List.mem_append_right _ h)))))))) (by decide +kernel))) (goodIn_sub (fun _ h => List.mem_append_left _ (List.mem_append_left _ (List.mem_append_left _ (List.mem_append_left _ (List.mem_append_right _ h))))) (by decide +kernel))
set_option maxRecDepth 20000 in
theorem gL_law_L_trimByTable : GoodIn wsL_law (va_wsS RL 136 yL_trimByTable wsL_trimByTable) := goodIn_app (goodIn_of _ (by decide +kernel)) ggL_law_L_trimByTable
set_option maxRecDepth 20000 in
theorem ggL_law_X5_trimByTable : GoodIn wsL_law wsX5_trimByTable := goodIn_ca (goodIn_ca (goodIn_r _ [381, 382, 351, 352, 5, 353, 71, 172, 173, 174, 175, 111, 112, 113, 114, 119, 120, 121, 122, 123, 354, 355, 356, 357, 358, 359, 360, 361, 362, 148, 84, 83, 74, 76, 75, 635, 636, 637, 638, 639, 640, 641, 642, 643, 644, 645, 646, 647, 648, 649, 650, 651, 652, 653, 654, 655, 656, 657, 658, 659, 660, 661, 662, 663] (by decide +kernel) (by decide +kernel)) (goodIn_sub (fun _ h => List.mem_append_left _ (List.mem_append_left _ (List.mem_append_left _ (List.mem_append_left _ (List.mem_append_left _ (List.mem_append_left _ (List.mem_append_left _ (List.mem_append_right _ h)))))))) (by decide +kernel))) (goodIn_sub (fun _ h => List.mem_append_left _ (List.mem_append_right _ h)) (by decide +kernel))
set_option maxRecDepth 20000 in
theorem gL_law_X5_trimByTable : GoodIn wsL_law (wsV RL 138 RX5 yX5_trimByTable wsX5_trimByTable) := goodIn_app (goodIn_of _ (by decide +kernel)) ggL_law_X5_trimByTable
set_option maxRecDepth 20000 in
theorem ggL_law_L_inCut : GoodIn wsL_law wsL_inCut := goodIn_ca (goodIn_ca (goodIn_r _ [385, 152, 386, 387, 388, 2, 389, 157, 158, 22, 26, 390, 16, 391, 275, 276, 277, 21, 278, 139, 317, 318, 319, 25, 320, 321, 322, 142, 323, 324, 141, 143, 325, 326, 48, 327, 49, 328, 50, 329, 330, 331, 332, 333, 334, 46, 335, 336, 337, 338, 339, 340, 341, 47, 342, 343, 344, 345, 346, 347, 348, 349, 622, 623, 624, 625, 626, 627, 628, 629, 630, 631, 632, 633, 634, 664, 665, 666, 667, 668, 669, 670, 671, 672, 673, 674, 675, 676] (by decide +kernel) (by decide +kernel)) (goodIn_sub (fun _ h => List.mem_append_left _ (List.mem_append_left _ (List.mem_append_left _ (List.mem_append_left _ (List.mem_append_left _ (List.mem_append_left _ (List.mem_append_left _ (List.mem_append_right _ h)))))))) (by decide +kernel))) (goodIn_sub (fun _ h => List.mem_append_left _ (List.mem_append_left _ (List.mem_append_left _ (List.mem_append_left _ (List.mem_append_right _ h))))) (by decide +kernel))
set_option maxRecDepth 20000 in
theorem gL_law_L_inCut : GoodIn wsL_law (va_wsS RL 139 yL_inCut wsL_inCut) := goodIn_app (goodIn_of _ (by decide +kernel)) ggL_law_L_inCut
set_option maxRecDepth 20000 in
theorem ggL_law_X5_inCut : GoodIn wsL_law wsX5_inCut := goodIn_ca (goodIn_ca (goodIn_r _ [395, 74, 84, 283, 284, 285, 5, 286, 148, 112, 113, 114, 119, 120, 121, 122, 123, 354, 355, 356, 357, 358, 359, 360, 361, 362, 83, 76, 71, 75, 635, 636, 637, 638, 639, 640, 641, 642, 643, 644, 645, 646, 647, 648, 649, 650, 651, 652, 653, 654, 655, 656, 657, 658, 659, 660, 661, 662, 663] (by decide +kernel) (by decide +kernel)) (goodIn_sub (fun _ h => List.mem_append_left _ (List.mem_append_left _ (List.mem_append_left _ (List.mem_append_left _ (List.mem_append_left _ (List.mem_append_left _ (List.mem_append_left _ (List.mem_append_right _ h)))))))) (by decide +kernel))) (goodIn_sub (fun _ h => List.mem_append_left _ (List.mem_append_right _ h)) (by decide +kernel))
set_option maxRecDepth 20000 in
theorem gL_law_X5_inCut : GoodIn wsL_law (wsV RL 141 RX5 yX5_inCut wsX5_inCut) := goodIn_app (goodIn_of _ (by decide +kernel)) ggL_law_X5_inCut
set_option maxRecDepth 20000 in
theorem ggL_law_L_leastHours : GoodIn wsL_law wsL_leastHours := goodIn_ca (goodIn_ca (goodIn_ca (goodIn_r _ [398, 152, 399, 400, 401, 2, 402, 157, 158, 22, 16, 403, 141, 142, 143, 163, 164, 165, 166, 99, 404, 405, 406, 21, 407, 139, 39, 42, 40, 408, 409, 410, 209, 210, 211, 212, 622, 623, 624, 625, 626, 627, 628, 629, 630, 631, 632, 633, 634, 664, 665, 666, 667, 668] (by decide +kernel) (by decide +kernel)) (goodIn_sub (fun _ h => List.mem_append_left _ (List.mem_append_left _ (List.mem_append_left _ (List.mem_append_left _ (List.mem_append_left _ (List.mem_append_left _ (List.mem_append_left _ (List.mem_append_right _ h)))))))) (by decide +kernel))) (goodIn_sub (fun _ h => List.mem_append_left _ (List.mem_append_left _ (List.mem_append_left _ (List.mem_append_left _ (List.mem_append_right _ h))))) (by decide +kernel))) (goodIn_sub (fun _ h => List.mem_append_left _ (List.mem_append_right _ h)) (by decide +kernel))
set_option maxRecDepth 20000 in
theorem gL_law_L_leastHours : GoodIn wsL_law (va_wsS RL 142 yL_leastHours wsL_leastHours) := goodIn_app (goodIn_of _ (by decide +kernel)) ggL_law_L_leastHours
set_option maxRecDepth 20000 in
theorem ggL_law_X5_leastHours : GoodIn wsL_law wsX5_leastHours := goodIn_ca (goodIn_ca (goodIn_r _ [414, 148, 74, 76, 75, 71, 172, 173, 174, 5, 175, 111, 112, 113, 114, 119, 120, 121, 122, 123, 635, 636, 637, 638, 639, 640, 641, 642, 643, 644, 645, 646, 647, 648, 649, 650, 651, 652, 653, 654, 655, 656, 657, 658, 659, 660, 661, 662, 663] (by decide +kernel) (by decide +kernel)) (goodIn_sub (fun _ h => List.mem_append_left _ (List.mem_append_left _ (List.mem_append_left _ (List.mem_append_left _ (List.mem_append_left _ (List.mem_append_left _ (List.mem_append_left _ (List.mem_append_right _ h)))))))) (by decide +kernel))) (goodIn_sub (fun _ h => List.mem_append_left _ (List.mem_append_right _ h)) (by decide +kernel))
set_option maxRecDepth 20000 in
theorem gL_law_X5_leastHours : GoodIn wsL_law (wsV RL 144 RX5 yX5_leastHours wsX5_leastHours) := goodIn_app (goodIn_of _ (by decide +kernel)) ggL_law_X5_leastHours
set_option maxRecDepth 20000 in
theorem ggL_law_L_setShare : GoodIn wsL_law wsL_setShare := goodIn_ca (goodIn_ca (goodIn_r _ [417, 89, 418, 419, 420, 2, 421, 95, 96, 35, 100, 101, 102, 622, 623, 624, 625, 626, 627, 628, 629, 630, 631, 632, 633, 634] (by decide +kernel) (by decide +kernel)) (goodIn_sub (fun _ h => List.mem_append_left _ (List.mem_append_left _ (List.mem_append_left _ (List.mem_append_left _ (List.mem_append_left _ (List.mem_append_left _ (List.mem_append_left _ (List.mem_append_right _ h)))))))) (by decide +kernel))) (goodIn_sub (fun _ h => List.mem_append_left _ (List.mem_append_left _ (List.mem_append_left _ (List.mem_append_left _ (List.mem_append_left _ (List.mem_append_left _ (List.mem_append_right _ h))))))) (by decide +kernel))
set_option maxRecDepth 20000 in
theorem gL_law_L_setShare : GoodIn wsL_law (va_wsS RL 145 yL_setShare wsL_setShare) := goodIn_app (goodIn_of _ (by decide +kernel)) ggL_law_L_setShare
set_option maxRecDepth 20000 in
theorem ggL_law_X5_setShare : GoodIn wsL_law wsX5_setShare := goodIn_r _ [425, 78, 112, 113, 5, 114, 119, 120, 121, 122, 123, 635, 636, 637, 638, 639, 640, 641, 642, 643, 644, 645, 646, 647, 648, 649, 650, 651, 652, 653, 654, 655, 656, 657, 658, 659, 660, 661, 662, 663] (by decide +kernel) (by decide +kernel)
set_option maxRecDepth 20000 in
theorem gL_law_X5_setShare : GoodIn wsL_law (wsV RL 147 RX5 yX5_setShare wsX5_setShare) := goodIn_app (goodIn_of _ (by decide +kernel)) ggL_law_X5_setShare
set_option maxRecDepth 20000 in
theorem ggL_law_L_setContract : GoodIn wsL_law wsL_setContract := goodIn_ca (goodIn_ca (goodIn_r _ [428, 89, 429, 430, 431, 2, 432, 95, 96, 30, 433, 434, 435, 100, 101, 102, 622, 623, 624, 625, 626, 627, 628, 629, 630, 631, 632, 633, 634, 677, 678, 679] (by decide +kernel) (by decide +kernel)) (goodIn_sub (fun _ h => List.mem_append_left _ (List.mem_append_left _ (List.mem_append_left _ (List.mem_append_left _ (List.mem_append_left _ (List.mem_append_left _ (List.mem_append_left _ (List.mem_append_right _ h)))))))) (by decide +kernel))) (goodIn_sub (fun _ h => List.mem_append_left _ (List.mem_append_left _ (List.mem_append_left _ (List.mem_append_left _ (List.mem_append_left _ (List.mem_append_left _ (List.mem_append_right _ h))))))) (by decide +kernel))
set_option maxRecDepth 20000 in
theorem gL_law_L_setContract : GoodIn wsL_law (va_wsS RL 148 yL_setContract wsL_setContract) := goodIn_app (goodIn_of _ (by decide +kernel)) ggL_law_L_setContract
set_option maxRecDepth 20000 in
theorem ggL_law_X5_setContract : GoodIn wsL_law wsX5_setContract := goodIn_r _ [439, 79, 80, 81, 112, 113, 5, 114, 119, 120, 121, 122, 123, 635, 636, 637, 638, 639, 640, 641, 642, 643, 644, 645, 646, 647, 648, 649, 650, 651, 652, 653, 654, 655, 656, 657, 658, 659, 660, 661, 662, 663] (by decide +kernel) (by decide +kernel)
set_option maxRecDepth 20000 in
theorem gL_law_X5_setContract : GoodIn wsL_law (wsV RL 150 RX5 yX5_setContract wsX5_setContract) := goodIn_app (goodIn_of _ (by decide +kernel)) ggL_law_X5_setContract
set_option maxRecDepth 20000 in
theorem ggL_law_L_pass : GoodIn wsL_law wsL_pass := goodIn_ca (goodIn_ca (goodIn_ca (goodIn_ca (goodIn_r _ [442, 89, 90, 443, 444, 445, 2, 446, 95, 96, 97, 98, 34, 447, 100, 101, 102, 448, 449, 450, 451, 17, 159, 26, 22, 16, 391, 163, 164, 165, 166, 99, 452, 453, 454, 33, 455, 456, 457, 458, 459, 460, 62, 63, 64, 65, 461, 462, 463, 232, 233, 234, 235, 15, 464, 465, 466, 467, 468, 35, 469, 322, 142, 323, 470, 471, 30, 472, 473, 474, 475, 29, 476, 55, 477, 56, 57, 317, 318, 319, 25, 320, 321, 324, 141, 143, 325, 326, 48, 327, 49, 328, 50, 329, 276, 277, 21, 278, 139, 330, 331, 332, 333, 334, 46, 335, 336, 337, 338, 339, 340, 341, 47, 342, 343, 344, 345, 346, 347, 348, 349, 478, 479, 480, 481, 482, 483, 484, 485, 486, 487, 488, 489, 490, 41, 42, 622, 623, 624, 625, 626, 627, 628, 629, 630, 631, 632, 633, 634, 680, 681, 682, 683, 684, 685, 686, 687, 688, 689, 690, 669, 670, 671, 672, 673, 674, 675, 676, 677, 678, 679, 664, 665, 666, 667, 668] (by decide +kernel) (by decide +kernel)) (goodIn_sub (fun _ h => List.mem_append_left _ (List.mem_append_left _ (List.mem_append_left _ (List.mem_append_left _ (List.mem_append_left _ (List.mem_append_left _ (List.mem_append_left _ (List.mem_append_right _ h)))))))) (by decide +kernel))) (goodIn_sub (fun _ h => List.mem_append_left _ (List.mem_append_left _ (List.mem_append_left _ (List.mem_append_left _ (List.mem_append_left _ (List.mem_append_left _ (List.mem_append_right _ h))))))) (by decide +kernel))) (goodIn_sub (fun _ h => List.mem_append_left _ (List.mem_append_left _ (List.mem_append_left _ (List.mem_append_left _ (List.mem_append_left _ (List.mem_append_right _ h)))))) (by decide +kernel))) (goodIn_sub (fun _ h => List.mem_append_left _ (List.mem_append_right _ h)) (by decide +kernel))
set_option maxRecDepth 20000 in
theorem gL_law_L_pass : GoodIn wsL_law (va_wsS RL 151 yL_pass wsL_pass) := goodIn_app (goodIn_of _ (by decide +kernel)) ggL_law_L_pass
set_option maxRecDepth 20000 in
theorem ggL_law_X5_pass : GoodIn wsL_law wsX5_pass := goodIn_ca (goodIn_ca (goodIn_r _ [494, 495, 112, 113, 5, 114, 119, 120, 121, 122, 123, 496, 497, 498, 499, 72, 82, 171, 240, 241, 242, 243, 70, 71, 500, 501, 502, 503, 78, 504, 505, 506, 507, 508, 79, 509, 80, 81, 510, 511, 512, 513, 148, 76, 84, 77, 514, 515, 354, 355, 356, 357, 358, 359, 360, 361, 362, 83, 74, 75, 635, 636, 637, 638, 639, 640, 641, 642, 643, 644, 645, 646, 647, 648, 649, 650, 651, 652, 653, 654, 655, 656, 657, 658, 659, 660, 661, 662, 663] (by decide +kernel) (by decide +kernel)) (goodIn_sub (fun _ h => List.mem_append_left _ (List.mem_append_left _ (List.mem_append_left _ (List.mem_append_left _ (List.mem_append_left _ (List.mem_append_left _ (List.mem_append_left _ (List.mem_append_right _ h)))))))) (by decide +kernel))) (goodIn_sub (fun _ h => List.mem_append_left _ (List.mem_append_right _ h)) (by decide +kernel))
set_option maxRecDepth 20000 in
theorem gL_law_X5_pass : GoodIn wsL_law (wsV RL 153 RX5 yX5_pass wsX5_pass) := goodIn_app (goodIn_of _ (by decide +kernel)) ggL_law_X5_pass
set_option maxRecDepth 20000 in
theorem ggL_law_X4_hours : GoodIn wsL_law wsX4_hours := goodIn_r _ [519, 34, 447, 622, 623, 624, 625, 626, 627, 628, 629, 630, 631, 632, 633, 634, 680, 681, 682, 683, 684, 685, 686, 687, 688, 689, 690] (by decide +kernel) (by decide +kernel)
set_option maxRecDepth 20000 in
theorem gL_law_X4_hours : GoodIn wsL_law (wsV RL 154 RX4 yX4_hours wsX4_hours) := goodIn_app (goodIn_of _ (by decide +kernel)) ggL_law_X4_hours
set_option maxRecDepth 20000 in
theorem ggL_law_X5_hours : GoodIn wsL_law wsX5_hours := goodIn_r _ [523, 123, 495, 635, 636, 637, 638, 639, 640, 641, 642, 643, 644, 645, 646, 647, 648, 649, 650, 651, 652, 653, 654, 655, 656, 657, 658, 659, 660, 661, 662, 663] (by decide +kernel) (by decide +kernel)
set_option maxRecDepth 20000 in
theorem gL_law_X5_hours : GoodIn wsL_law (wsV RL 157 RX5 yX5_hours wsX5_hours) := goodIn_app (goodIn_of _ (by decide +kernel)) ggL_law_X5_hours
set_option maxRecDepth 20000 in
theorem ggL_law_X4_broke : GoodIn wsL_law wsX4_broke := goodIn_r _ [527, 468, 622, 623, 624, 625, 626, 627, 628, 629, 630, 631, 632, 633, 634] (by decide +kernel) (by decide +kernel)
set_option maxRecDepth 20000 in
theorem gL_law_X4_broke : GoodIn wsL_law (wsV RL 158 RX4 yX4_broke wsX4_broke) := goodIn_app (goodIn_of _ (by decide +kernel)) ggL_law_X4_broke
set_option maxRecDepth 20000 in
theorem ggL_law_X5_broke : GoodIn wsL_law wsX5_broke := goodIn_r _ [531, 123, 504, 635, 636, 637, 638, 639, 640, 641, 642, 643, 644, 645, 646, 647, 648, 649, 650, 651, 652, 653, 654, 655, 656, 657, 658, 659, 660, 661, 662, 663] (by decide +kernel) (by decide +kernel)
set_option maxRecDepth 20000 in
theorem gL_law_X5_broke : GoodIn wsL_law (wsV RL 161 RX5 yX5_broke wsX5_broke) := goodIn_app (goodIn_of _ (by decide +kernel)) ggL_law_X5_broke
set_option maxRecDepth 20000 in
theorem ggL_law_X4_brokeByHours : GoodIn wsL_law wsX4_brokeByHours := goodIn_ca (goodIn_r _ [535, 34, 536, 537, 538, 33, 539, 460, 63, 64, 65, 622, 623, 624, 625, 626, 627, 628, 629, 630, 631, 632, 633, 634, 680, 681, 682, 683, 684, 685, 686, 687, 688, 689, 690] (by decide +kernel) (by decide +kernel)) (goodIn_sub (fun _ h => List.mem_append_left _ (List.mem_append_left _ (List.mem_append_left _ (List.mem_append_left _ (List.mem_append_left _ (List.mem_append_left _ (List.mem_append_left _ (List.mem_append_right _ h)))))))) (by decide +kernel))
set_option maxRecDepth 20000 in
theorem gL_law_X4_brokeByHours : GoodIn wsL_law (wsV RL 162 RX4 yX4_brokeByHours wsX4_brokeByHours) := goodIn_app (goodIn_of _ (by decide +kernel)) ggL_law_X4_brokeByHours
set_option maxRecDepth 20000 in
theorem ggL_law_X5_brokeByHours : GoodIn wsL_law wsX5_brokeByHours := goodIn_r _ [543, 123, 504, 635, 636, 637, 638, 639, 640, 641, 642, 643, 644, 645, 646, 647, 648, 649, 650, 651, 652, 653, 654, 655, 656, 657, 658, 659, 660, 661, 662, 663] (by decide +kernel) (by decide +kernel)
set_option maxRecDepth 20000 in
theorem gL_law_X5_brokeByHours : GoodIn wsL_law (wsV RL 165 RX5 yX5_brokeByHours wsX5_brokeByHours) := goodIn_app (goodIn_of _ (by decide +kernel)) ggL_law_X5_brokeByHours
set_option maxRecDepth 20000 in
theorem ggL_law_X4_fresh : GoodIn wsL_law wsX4_fresh := goodIn_r _ [547, 34, 548, 622, 623, 624, 625, 626, 627, 628, 629, 630, 631, 632, 633, 634, 680, 681, 682, 683, 684, 685, 686, 687, 688, 689, 690] (by decide +kernel) (by decide +kernel)
set_option maxRecDepth 20000 in
theorem gL_law_X4_fresh : GoodIn wsL_law (wsV RL 166 RX4 yX4_fresh wsX4_fresh) := goodIn_app (goodIn_of _ (by decide +kernel)) ggL_law_X4_fresh
set_option maxRecDepth 20000 in
theorem ggL_law_X5_fresh : GoodIn wsL_law wsX5_fresh := goodIn_r _ [552, 123, 505, 635, 636, 637, 638, 639, 640, 641, 642, 643, 644, 645, 646, 647, 648, 649, 650, 651, 652, 653, 654, 655, 656, 657, 658, 659, 660, 661, 662, 663] (by decide +kernel) (by decide +kernel)
set_option maxRecDepth 20000 in
theorem gL_law_X5_fresh : GoodIn wsL_law (wsV RL 170 RX5 yX5_fresh wsX5_fresh) := goodIn_app (goodIn_of _ (by decide +kernel)) ggL_law_X5_fresh
set_option maxRecDepth 20000 in
theorem ggL_law_X4_paper : GoodIn wsL_law wsX4_paper := goodIn_r _ [556, 34, 557, 622, 623, 624, 625, 626, 627, 628, 629, 630, 631, 632, 633, 634, 680, 681, 682, 683, 684, 685, 686, 687, 688, 689, 690] (by decide +kernel) (by decide +kernel)
set_option maxRecDepth 20000 in
theorem gL_law_X4_paper : GoodIn wsL_law (wsV RL 171 RX4 yX4_paper wsX4_paper) := goodIn_app (goodIn_of _ (by decide +kernel)) ggL_law_X4_paper
set_option maxRecDepth 20000 in
theorem ggL_law_X5_paper : GoodIn wsL_law wsX5_paper := goodIn_r _ [561, 123, 506, 635, 636, 637, 638, 639, 640, 641, 642, 643, 644, 645, 646, 647, 648, 649, 650, 651, 652, 653, 654, 655, 656, 657, 658, 659, 660, 661, 662, 663] (by decide +kernel) (by decide +kernel)
set_option maxRecDepth 20000 in
theorem gL_law_X5_paper : GoodIn wsL_law (wsV RL 174 RX5 yX5_paper wsX5_paper) := goodIn_app (goodIn_of _ (by decide +kernel)) ggL_law_X5_paper
set_option maxRecDepth 20000 in
theorem ggL_law_X4_lost : GoodIn wsL_law wsX4_lost := goodIn_r _ [565, 34, 566, 622, 623, 624, 625, 626, 627, 628, 629, 630, 631, 632, 633, 634, 680, 681, 682, 683, 684, 685, 686, 687, 688, 689, 690] (by decide +kernel) (by decide +kernel)
set_option maxRecDepth 20000 in
theorem gL_law_X4_lost : GoodIn wsL_law (wsV RL 175 RX4 yX4_lost wsX4_lost) := goodIn_app (goodIn_of _ (by decide +kernel)) ggL_law_X4_lost
set_option maxRecDepth 20000 in
theorem ggL_law_X5_lost : GoodIn wsL_law wsX5_lost := goodIn_r _ [570, 123, 507, 635, 636, 637, 638, 639, 640, 641, 642, 643, 644, 645, 646, 647, 648, 649, 650, 651, 652, 653, 654, 655, 656, 657, 658, 659, 660, 661, 662, 663] (by decide +kernel) (by decide +kernel)
set_option maxRecDepth 20000 in
theorem gL_law_X5_lost : GoodIn wsL_law (wsV RL 178 RX5 yX5_lost wsX5_lost) := goodIn_app (goodIn_of _ (by decide +kernel)) ggL_law_X5_lost
set_option maxRecDepth 20000 in
theorem ggL_law_L_made : GoodIn wsL_law wsL_made := goodIn_ca (goodIn_ca (goodIn_r _ [573, 152, 574, 575, 576, 2, 577, 157, 158, 34, 578, 579, 580, 581, 33, 582, 460, 622, 623, 624, 625, 626, 627, 628, 629, 630, 631, 632, 633, 634, 680, 681, 682, 683, 684, 685, 686, 687, 688, 689, 690] (by decide +kernel) (by decide +kernel)) (goodIn_sub (fun _ h => List.mem_append_left _ (List.mem_append_left _ (List.mem_append_left _ (List.mem_append_left _ (List.mem_append_left _ (List.mem_append_left _ (List.mem_append_left _ (List.mem_append_right _ h)))))))) (by decide +kernel))) (goodIn_sub (fun _ h => List.mem_append_left _ (List.mem_append_left _ (List.mem_append_left _ (List.mem_append_left _ (List.mem_append_right _ h))))) (by decide +kernel))
set_option maxRecDepth 20000 in
theorem gL_law_L_made : GoodIn wsL_law (va_wsS RL 179 yL_made wsL_made) := goodIn_app (goodIn_of _ (by decide +kernel)) ggL_law_L_made
set_option maxRecDepth 20000 in
theorem ggL_law_X5_made : GoodIn wsL_law wsX5_made := goodIn_ca (goodIn_r _ [586, 495, 82, 112, 113, 5, 114, 119, 120, 121, 122, 123, 635, 636, 637, 638, 639, 640, 641, 642, 643, 644, 645, 646, 647, 648, 649, 650, 651, 652, 653, 654, 655, 656, 657, 658, 659, 660, 661, 662, 663] (by decide +kernel) (by decide +kernel)) (goodIn_sub (fun _ h => List.mem_append_left _ (List.mem_append_left _ (List.mem_append_left _ (List.mem_append_left _ (List.mem_append_left _ (List.mem_append_left _ (List.mem_append_left _ (List.mem_append_right _ h)))))))) (by decide +kernel))
set_option maxRecDepth 20000 in
theorem gL_law_X5_made : GoodIn wsL_law (wsV RL 181 RX5 yX5_made wsX5_made) := goodIn_app (goodIn_of _ (by decide +kernel)) ggL_law_X5_made
set_option maxRecDepth 20000 in
theorem ggL_law_X4_steamCost : GoodIn wsL_law wsX4_steamCost := goodIn_r _ [590, 471, 622, 623, 624, 625, 626, 627, 628, 629, 630, 631, 632, 633, 634] (by decide +kernel) (by decide +kernel)
set_option maxRecDepth 20000 in
theorem gL_law_X4_steamCost : GoodIn wsL_law (wsV RL 182 RX4 yX4_steamCost wsX4_steamCost) := goodIn_app (goodIn_of _ (by decide +kernel)) ggL_law_X4_steamCost
set_option maxRecDepth 20000 in
theorem ggL_law_X5_steamCost : GoodIn wsL_law wsX5_steamCost := goodIn_r _ [594, 123, 509, 635, 636, 637, 638, 639, 640, 641, 642, 643, 644, 645, 646, 647, 648, 649, 650, 651, 652, 653, 654, 655, 656, 657, 658, 659, 660, 661, 662, 663] (by decide +kernel) (by decide +kernel)
set_option maxRecDepth 20000 in
theorem gL_law_X5_steamCost : GoodIn wsL_law (wsV RL 185 RX5 yX5_steamCost wsX5_steamCost) := goodIn_app (goodIn_of _ (by decide +kernel)) ggL_law_X5_steamCost
set_option maxRecDepth 20000 in
theorem ggL_law_L_paperShare : GoodIn wsL_law wsL_paperShare := goodIn_ca (goodIn_ca (goodIn_r _ [597, 598, 599, 600, 601, 2, 602, 603, 604, 34, 470, 557, 622, 623, 624, 625, 626, 627, 628, 629, 630, 631, 632, 633, 634, 680, 681, 682, 683, 684, 685, 686, 687, 688, 689, 690] (by decide +kernel) (by decide +kernel)) (goodIn_sub (fun _ h => List.mem_append_left _ (List.mem_append_left _ (List.mem_append_left _ (List.mem_append_left _ (List.mem_append_left _ (List.mem_append_left _ (List.mem_append_left _ (List.mem_append_right _ h)))))))) (by decide +kernel))) (goodIn_sub (fun _ h => List.mem_append_right _ h) (by decide +kernel))
set_option maxRecDepth 20000 in
theorem gL_law_L_paperShare : GoodIn wsL_law (va_wsS RL 186 yL_paperShare wsL_paperShare) := goodIn_app (goodIn_of _ (by decide +kernel)) ggL_law_L_paperShare
set_option maxRecDepth 20000 in
theorem ggL_law_X5_paperShare : GoodIn wsL_law wsX5_paperShare := goodIn_r _ [608, 508, 506, 119, 120, 121, 5, 122, 123, 635, 636, 637, 638, 639, 640, 641, 642, 643, 644, 645, 646, 647, 648, 649, 650, 651, 652, 653, 654, 655, 656, 657, 658, 659, 660, 661, 662, 663] (by decide +kernel) (by decide +kernel)
set_option maxRecDepth 20000 in
theorem gL_law_X5_paperShare : GoodIn wsL_law (wsV RL 189 RX5 yX5_paperShare wsX5_paperShare) := goodIn_app (goodIn_of _ (by decide +kernel)) ggL_law_X5_paperShare
set_option maxRecDepth 20000 in
theorem ggL_law_L_meanTrim : GoodIn wsL_law wsL_meanTrim := goodIn_ca (goodIn_ca (goodIn_r _ [611, 598, 612, 613, 614, 2, 615, 603, 604, 34, 616, 617, 622, 623, 624, 625, 626, 627, 628, 629, 630, 631, 632, 633, 634, 680, 681, 682, 683, 684, 685, 686, 687, 688, 689, 690] (by decide +kernel) (by decide +kernel)) (goodIn_sub (fun _ h => List.mem_append_left _ (List.mem_append_left _ (List.mem_append_left _ (List.mem_append_left _ (List.mem_append_left _ (List.mem_append_left _ (List.mem_append_left _ (List.mem_append_right _ h)))))))) (by decide +kernel))) (goodIn_sub (fun _ h => List.mem_append_right _ h) (by decide +kernel))
set_option maxRecDepth 20000 in
theorem gL_law_L_meanTrim : GoodIn wsL_law (va_wsS RL 190 yL_meanTrim wsL_meanTrim) := goodIn_app (goodIn_of _ (by decide +kernel)) ggL_law_L_meanTrim
set_option maxRecDepth 20000 in
theorem ggL_law_X5_meanTrim : GoodIn wsL_law wsX5_meanTrim := goodIn_r _ [621, 514, 515, 119, 120, 121, 5, 122, 123, 635, 636, 637, 638, 639, 640, 641, 642, 643, 644, 645, 646, 647, 648, 649, 650, 651, 652, 653, 654, 655, 656, 657, 658, 659, 660, 661, 662, 663] (by decide +kernel) (by decide +kernel)
set_option maxRecDepth 20000 in
theorem gL_law_X5_meanTrim : GoodIn wsL_law (wsV RL 192 RX5 yX5_meanTrim wsX5_meanTrim) := goodIn_app (goodIn_of _ (by decide +kernel)) ggL_law_X5_meanTrim
theorem dL_law_0 : decode cL_law 0 = .ok (.new 8, 3) := by decide +kernel
theorem dL_law_3 : decode cL_law 3 = .ok (.dup, 1) := by decide +kernel
theorem dL_law_4 : decode cL_law 4 = .ok (.invokespecial 87, 3) := by decide +kernel
theorem dL_law_7 : decode cL_law 7 = .ok (.astore_n 1, 1) := by decide +kernel
theorem dL_law_8 : decode cL_law 8 = .ok (.new 88, 3) := by decide +kernel
theorem dL_law_11 : decode cL_law 11 = .ok (.dup, 1) := by decide +kernel
theorem dL_law_12 : decode cL_law 12 = .ok (.invokespecial 90, 3) := by decide +kernel
theorem dL_law_15 : decode cL_law 15 = .ok (.astore_n 2, 1) := by decide +kernel
theorem dL_law_16 : decode cL_law 16 = .ok (.iconst 1, 1) := by decide +kernel
theorem dL_law_17 : decode cL_law 17 = .ok (.newarray .long, 2) := by decide +kernel
theorem dL_law_19 : decode cL_law 19 = .ok (.astore_n 3, 1) := by decide +kernel
theorem dL_law_20 : decode cL_law 20 = .ok (.iconst 1, 1) := by decide +kernel
theorem dL_law_21 : decode cL_law 21 = .ok (.newarray .double, 2) := by decide +kernel
theorem dL_law_23 : decode cL_law 23 = .ok (.astore 4, 2) := by decide +kernel
theorem dL_law_25 : decode cL_law 25 = .ok (.iconst 0, 1) := by decide +kernel
theorem dL_law_26 : decode cL_law 26 = .ok (.istore 5, 2) := by decide +kernel
theorem dL_law_28 : decode cL_law 28 = .ok (.iload 5, 2) := by decide +kernel
theorem dL_law_30 : decode cL_law 30 = .ok (.aload_n 0, 1) := by decide +kernel
theorem dL_law_31 : decode cL_law 31 = .ok (.arraylength, 1) := by decide +kernel
theorem dL_law_32 : decode cL_law 32 = .ok (.iconst 4, 1) := by decide +kernel
theorem dL_law_33 : decode cL_law 33 = .ok (.isub, 1) := by decide +kernel
theorem dL_law_34 : decode cL_law 34 = .ok (.if_icmp .gt 1415, 3) := by decide +kernel
end
section
theorem dL_law_37 : decode cL_law 37 = .ok (.aload_n 0, 1) := by decide +kernel
theorem dL_law_38 : decode cL_law 38 = .ok (.iload 5, 2) := by decide +kernel
theorem dL_law_40 : decode cL_law 40 = .ok (.iaload, 1) := by decide +kernel
theorem dL_law_41 : decode cL_law 41 = .ok (.bipush 31, 2) := by decide +kernel
theorem dL_law_43 : decode cL_law 43 = .ok (.iand, 1) := by decide +kernel
theorem dL_law_44 : decode cL_law 44 = .ok (.tableswitch 1399 0 27 #[128, 184, 240, 296, 340, 353, 397, 453, 533, 589, 645, 701, 757, 813, 869, 925, 981, 1061, 1117, 1130, 1143, 1156, 1170, 1184, 1198, 1254, 1268, 1334], 128) := by decide +kernel
theorem dL_law_172 : decode cL_law 172 = .ok (.aload_n 1, 1) := by decide +kernel
theorem dL_law_173 : decode cL_law 173 = .ok (.aload_n 0, 1) := by decide +kernel
theorem dL_law_174 : decode cL_law 174 = .ok (.iload 5, 2) := by decide +kernel
theorem dL_law_176 : decode cL_law 176 = .ok (.iconst 1, 1) := by decide +kernel
theorem dL_law_177 : decode cL_law 177 = .ok (.iadd, 1) := by decide +kernel
theorem dL_law_178 : decode cL_law 178 = .ok (.iaload, 1) := by decide +kernel
theorem dL_law_179 : decode cL_law 179 = .ok (.aload_n 3, 1) := by decide +kernel
theorem dL_law_180 : decode cL_law 180 = .ok (.invokestatic 91, 3) := by decide +kernel
theorem dL_law_183 : decode cL_law 183 = .ok (.istore 6, 2) := by decide +kernel
theorem dL_law_185 : decode cL_law 185 = .ok (.aload_n 2, 1) := by decide +kernel
theorem dL_law_186 : decode cL_law 186 = .ok (.aload_n 0, 1) := by decide +kernel
theorem dL_law_187 : decode cL_law 187 = .ok (.iload 5, 2) := by decide +kernel
theorem dL_law_189 : decode cL_law 189 = .ok (.iconst 1, 1) := by decide +kernel
theorem dL_law_190 : decode cL_law 190 = .ok (.iadd, 1) := by decide +kernel
theorem dL_law_191 : decode cL_law 191 = .ok (.iaload, 1) := by decide +kernel
theorem dL_law_192 : decode cL_law 192 = .ok (.invokevirtual 96, 3) := by decide +kernel
theorem dL_law_195 : decode cL_law 195 = .ok (.istore 7, 2) := by decide +kernel
theorem dL_law_197 : decode cL_law 197 = .ok (.aload_n 2, 1) := by decide +kernel
theorem dL_law_198 : decode cL_law 198 = .ok (.invokevirtual 97, 3) := by decide +kernel
theorem dL_law_201 : decode cL_law 201 = .ok (.iload 6, 2) := by decide +kernel
theorem dL_law_203 : decode cL_law 203 = .ok (.if_icmp .eq 5, 3) := by decide +kernel
theorem dL_law_206 : decode cL_law 206 = .ok (.iconst 0, 1) := by decide +kernel
theorem dL_law_207 : decode cL_law 207 = .ok (.ireturn, 1) := by decide +kernel
theorem dL_law_208 : decode cL_law 208 = .ok (.iload 6, 2) := by decide +kernel
theorem dL_law_210 : decode cL_law 210 = .ok (.ifCond .ne 15, 3) := by decide +kernel
theorem dL_law_213 : decode cL_law 213 = .ok (.aload_n 3, 1) := by decide +kernel
theorem dL_law_214 : decode cL_law 214 = .ok (.iconst 0, 1) := by decide +kernel
theorem dL_law_215 : decode cL_law 215 = .ok (.laload, 1) := by decide +kernel
theorem dL_law_216 : decode cL_law 216 = .ok (.iload 7, 2) := by decide +kernel
theorem dL_law_218 : decode cL_law 218 = .ok (.i2l, 1) := by decide +kernel
theorem dL_law_219 : decode cL_law 219 = .ok (.lcmp, 1) := by decide +kernel
theorem dL_law_220 : decode cL_law 220 = .ok (.ifCond .eq 5, 3) := by decide +kernel
theorem dL_law_223 : decode cL_law 223 = .ok (.iconst 0, 1) := by decide +kernel
theorem dL_law_224 : decode cL_law 224 = .ok (.ireturn, 1) := by decide +kernel
theorem dL_law_225 : decode cL_law 225 = .ok (.goto 1218, 3) := by decide +kernel
theorem dL_law_228 : decode cL_law 228 = .ok (.aload_n 1, 1) := by decide +kernel
theorem dL_law_229 : decode cL_law 229 = .ok (.aload_n 0, 1) := by decide +kernel
theorem dL_law_230 : decode cL_law 230 = .ok (.iload 5, 2) := by decide +kernel
theorem dL_law_232 : decode cL_law 232 = .ok (.iconst 1, 1) := by decide +kernel
theorem dL_law_233 : decode cL_law 233 = .ok (.iadd, 1) := by decide +kernel
theorem dL_law_234 : decode cL_law 234 = .ok (.iaload, 1) := by decide +kernel
theorem dL_law_235 : decode cL_law 235 = .ok (.aload_n 3, 1) := by decide +kernel
theorem dL_law_236 : decode cL_law 236 = .ok (.invokestatic 100, 3) := by decide +kernel
theorem dL_law_239 : decode cL_law 239 = .ok (.istore 6, 2) := by decide +kernel
theorem dL_law_241 : decode cL_law 241 = .ok (.aload_n 2, 1) := by decide +kernel
theorem dL_law_242 : decode cL_law 242 = .ok (.aload_n 0, 1) := by decide +kernel
theorem dL_law_243 : decode cL_law 243 = .ok (.iload 5, 2) := by decide +kernel
theorem dL_law_245 : decode cL_law 245 = .ok (.iconst 1, 1) := by decide +kernel
theorem dL_law_246 : decode cL_law 246 = .ok (.iadd, 1) := by decide +kernel
theorem dL_law_247 : decode cL_law 247 = .ok (.iaload, 1) := by decide +kernel
theorem dL_law_248 : decode cL_law 248 = .ok (.invokevirtual 102, 3) := by decide +kernel
theorem dL_law_251 : decode cL_law 251 = .ok (.istore 7, 2) := by decide +kernel
theorem dL_law_253 : decode cL_law 253 = .ok (.aload_n 2, 1) := by decide +kernel
theorem dL_law_254 : decode cL_law 254 = .ok (.invokevirtual 97, 3) := by decide +kernel
theorem dL_law_257 : decode cL_law 257 = .ok (.iload 6, 2) := by decide +kernel
theorem dL_law_259 : decode cL_law 259 = .ok (.if_icmp .eq 5, 3) := by decide +kernel
theorem dL_law_262 : decode cL_law 262 = .ok (.iconst 0, 1) := by decide +kernel
theorem dL_law_263 : decode cL_law 263 = .ok (.ireturn, 1) := by decide +kernel
theorem dL_law_264 : decode cL_law 264 = .ok (.iload 6, 2) := by decide +kernel
theorem dL_law_266 : decode cL_law 266 = .ok (.ifCond .ne 15, 3) := by decide +kernel
theorem dL_law_269 : decode cL_law 269 = .ok (.aload_n 3, 1) := by decide +kernel
theorem dL_law_270 : decode cL_law 270 = .ok (.iconst 0, 1) := by decide +kernel
theorem dL_law_271 : decode cL_law 271 = .ok (.laload, 1) := by decide +kernel
theorem dL_law_272 : decode cL_law 272 = .ok (.iload 7, 2) := by decide +kernel
theorem dL_law_274 : decode cL_law 274 = .ok (.i2l, 1) := by decide +kernel
theorem dL_law_275 : decode cL_law 275 = .ok (.lcmp, 1) := by decide +kernel
theorem dL_law_276 : decode cL_law 276 = .ok (.ifCond .eq 5, 3) := by decide +kernel
theorem dL_law_279 : decode cL_law 279 = .ok (.iconst 0, 1) := by decide +kernel
theorem dL_law_280 : decode cL_law 280 = .ok (.ireturn, 1) := by decide +kernel
theorem dL_law_281 : decode cL_law 281 = .ok (.goto 1162, 3) := by decide +kernel
theorem dL_law_284 : decode cL_law 284 = .ok (.aload_n 1, 1) := by decide +kernel
theorem dL_law_285 : decode cL_law 285 = .ok (.aload_n 0, 1) := by decide +kernel
theorem dL_law_286 : decode cL_law 286 = .ok (.iload 5, 2) := by decide +kernel
theorem dL_law_288 : decode cL_law 288 = .ok (.iconst 1, 1) := by decide +kernel
theorem dL_law_289 : decode cL_law 289 = .ok (.iadd, 1) := by decide +kernel
theorem dL_law_290 : decode cL_law 290 = .ok (.iaload, 1) := by decide +kernel
theorem dL_law_291 : decode cL_law 291 = .ok (.aload_n 3, 1) := by decide +kernel
theorem dL_law_292 : decode cL_law 292 = .ok (.invokestatic 103, 3) := by decide +kernel
theorem dL_law_295 : decode cL_law 295 = .ok (.istore 6, 2) := by decide +kernel
theorem dL_law_297 : decode cL_law 297 = .ok (.aload_n 2, 1) := by decide +kernel
theorem dL_law_298 : decode cL_law 298 = .ok (.aload_n 0, 1) := by decide +kernel
theorem dL_law_299 : decode cL_law 299 = .ok (.iload 5, 2) := by decide +kernel
theorem dL_law_301 : decode cL_law 301 = .ok (.iconst 1, 1) := by decide +kernel
theorem dL_law_302 : decode cL_law 302 = .ok (.iadd, 1) := by decide +kernel
theorem dL_law_303 : decode cL_law 303 = .ok (.iaload, 1) := by decide +kernel
theorem dL_law_304 : decode cL_law 304 = .ok (.invokevirtual 105, 3) := by decide +kernel
theorem dL_law_307 : decode cL_law 307 = .ok (.istore 7, 2) := by decide +kernel
theorem dL_law_309 : decode cL_law 309 = .ok (.aload_n 2, 1) := by decide +kernel
theorem dL_law_310 : decode cL_law 310 = .ok (.invokevirtual 97, 3) := by decide +kernel
theorem dL_law_313 : decode cL_law 313 = .ok (.iload 6, 2) := by decide +kernel
theorem dL_law_315 : decode cL_law 315 = .ok (.if_icmp .eq 5, 3) := by decide +kernel
theorem dL_law_318 : decode cL_law 318 = .ok (.iconst 0, 1) := by decide +kernel
theorem dL_law_319 : decode cL_law 319 = .ok (.ireturn, 1) := by decide +kernel
theorem dL_law_320 : decode cL_law 320 = .ok (.iload 6, 2) := by decide +kernel
theorem dL_law_322 : decode cL_law 322 = .ok (.ifCond .ne 15, 3) := by decide +kernel
theorem dL_law_325 : decode cL_law 325 = .ok (.aload_n 3, 1) := by decide +kernel
theorem dL_law_326 : decode cL_law 326 = .ok (.iconst 0, 1) := by decide +kernel
theorem dL_law_327 : decode cL_law 327 = .ok (.laload, 1) := by decide +kernel
theorem dL_law_328 : decode cL_law 328 = .ok (.iload 7, 2) := by decide +kernel
theorem dL_law_330 : decode cL_law 330 = .ok (.i2l, 1) := by decide +kernel
theorem dL_law_331 : decode cL_law 331 = .ok (.lcmp, 1) := by decide +kernel
theorem dL_law_332 : decode cL_law 332 = .ok (.ifCond .eq 5, 3) := by decide +kernel
theorem dL_law_335 : decode cL_law 335 = .ok (.iconst 0, 1) := by decide +kernel
theorem dL_law_336 : decode cL_law 336 = .ok (.ireturn, 1) := by decide +kernel
theorem dL_law_337 : decode cL_law 337 = .ok (.goto 1106, 3) := by decide +kernel
theorem dL_law_340 : decode cL_law 340 = .ok (.aload_n 1, 1) := by decide +kernel
theorem dL_law_341 : decode cL_law 341 = .ok (.aload_n 3, 1) := by decide +kernel
theorem dL_law_342 : decode cL_law 342 = .ok (.invokestatic 106, 3) := by decide +kernel
theorem dL_law_345 : decode cL_law 345 = .ok (.istore 6, 2) := by decide +kernel
theorem dL_law_347 : decode cL_law 347 = .ok (.aload_n 2, 1) := by decide +kernel
theorem dL_law_348 : decode cL_law 348 = .ok (.invokevirtual 109, 3) := by decide +kernel
theorem dL_law_351 : decode cL_law 351 = .ok (.istore 7, 2) := by decide +kernel
theorem dL_law_353 : decode cL_law 353 = .ok (.aload_n 2, 1) := by decide +kernel
theorem dL_law_354 : decode cL_law 354 = .ok (.invokevirtual 97, 3) := by decide +kernel
theorem dL_law_357 : decode cL_law 357 = .ok (.iload 6, 2) := by decide +kernel
theorem dL_law_359 : decode cL_law 359 = .ok (.if_icmp .eq 5, 3) := by decide +kernel
theorem dL_law_362 : decode cL_law 362 = .ok (.iconst 0, 1) := by decide +kernel
theorem dL_law_363 : decode cL_law 363 = .ok (.ireturn, 1) := by decide +kernel
theorem dL_law_364 : decode cL_law 364 = .ok (.iload 6, 2) := by decide +kernel
theorem dL_law_366 : decode cL_law 366 = .ok (.ifCond .ne 15, 3) := by decide +kernel
theorem dL_law_369 : decode cL_law 369 = .ok (.aload_n 3, 1) := by decide +kernel
theorem dL_law_370 : decode cL_law 370 = .ok (.iconst 0, 1) := by decide +kernel
theorem dL_law_371 : decode cL_law 371 = .ok (.laload, 1) := by decide +kernel
theorem dL_law_372 : decode cL_law 372 = .ok (.iload 7, 2) := by decide +kernel
theorem dL_law_374 : decode cL_law 374 = .ok (.i2l, 1) := by decide +kernel
theorem dL_law_375 : decode cL_law 375 = .ok (.lcmp, 1) := by decide +kernel
theorem dL_law_376 : decode cL_law 376 = .ok (.ifCond .eq 5, 3) := by decide +kernel
theorem dL_law_379 : decode cL_law 379 = .ok (.iconst 0, 1) := by decide +kernel
theorem dL_law_380 : decode cL_law 380 = .ok (.ireturn, 1) := by decide +kernel
theorem dL_law_381 : decode cL_law 381 = .ok (.goto 1062, 3) := by decide +kernel
theorem dL_law_384 : decode cL_law 384 = .ok (.aload_n 1, 1) := by decide +kernel
theorem dL_law_385 : decode cL_law 385 = .ok (.invokevirtual 110, 3) := by decide +kernel
theorem dL_law_388 : decode cL_law 388 = .ok (.aload_n 2, 1) := by decide +kernel
theorem dL_law_389 : decode cL_law 389 = .ok (.invokevirtual 113, 3) := by decide +kernel
theorem dL_law_392 : decode cL_law 392 = .ok (.if_icmp .eq 1051, 3) := by decide +kernel
theorem dL_law_395 : decode cL_law 395 = .ok (.iconst 0, 1) := by decide +kernel
theorem dL_law_396 : decode cL_law 396 = .ok (.ireturn, 1) := by decide +kernel
theorem dL_law_397 : decode cL_law 397 = .ok (.aload_n 1, 1) := by decide +kernel
theorem dL_law_398 : decode cL_law 398 = .ok (.aload_n 3, 1) := by decide +kernel
theorem dL_law_399 : decode cL_law 399 = .ok (.invokestatic 114, 3) := by decide +kernel
theorem dL_law_402 : decode cL_law 402 = .ok (.istore 6, 2) := by decide +kernel
theorem dL_law_404 : decode cL_law 404 = .ok (.aload_n 2, 1) := by decide +kernel
theorem dL_law_405 : decode cL_law 405 = .ok (.invokevirtual 116, 3) := by decide +kernel
theorem dL_law_408 : decode cL_law 408 = .ok (.istore 7, 2) := by decide +kernel
theorem dL_law_410 : decode cL_law 410 = .ok (.aload_n 2, 1) := by decide +kernel
theorem dL_law_411 : decode cL_law 411 = .ok (.invokevirtual 97, 3) := by decide +kernel
theorem dL_law_414 : decode cL_law 414 = .ok (.iload 6, 2) := by decide +kernel
theorem dL_law_416 : decode cL_law 416 = .ok (.if_icmp .eq 5, 3) := by decide +kernel
theorem dL_law_419 : decode cL_law 419 = .ok (.iconst 0, 1) := by decide +kernel
theorem dL_law_420 : decode cL_law 420 = .ok (.ireturn, 1) := by decide +kernel
theorem dL_law_421 : decode cL_law 421 = .ok (.iload 6, 2) := by decide +kernel
theorem dL_law_423 : decode cL_law 423 = .ok (.ifCond .ne 15, 3) := by decide +kernel
theorem dL_law_426 : decode cL_law 426 = .ok (.aload_n 3, 1) := by decide +kernel
theorem dL_law_427 : decode cL_law 427 = .ok (.iconst 0, 1) := by decide +kernel
theorem dL_law_428 : decode cL_law 428 = .ok (.laload, 1) := by decide +kernel
theorem dL_law_429 : decode cL_law 429 = .ok (.iload 7, 2) := by decide +kernel
theorem dL_law_431 : decode cL_law 431 = .ok (.i2l, 1) := by decide +kernel
theorem dL_law_432 : decode cL_law 432 = .ok (.lcmp, 1) := by decide +kernel
theorem dL_law_433 : decode cL_law 433 = .ok (.ifCond .eq 5, 3) := by decide +kernel
theorem dL_law_436 : decode cL_law 436 = .ok (.iconst 0, 1) := by decide +kernel
theorem dL_law_437 : decode cL_law 437 = .ok (.ireturn, 1) := by decide +kernel
theorem dL_law_438 : decode cL_law 438 = .ok (.goto 1005, 3) := by decide +kernel
theorem dL_law_441 : decode cL_law 441 = .ok (.aload_n 1, 1) := by decide +kernel
theorem dL_law_442 : decode cL_law 442 = .ok (.aload_n 0, 1) := by decide +kernel
theorem dL_law_443 : decode cL_law 443 = .ok (.iload 5, 2) := by decide +kernel
theorem dL_law_445 : decode cL_law 445 = .ok (.iconst 1, 1) := by decide +kernel
theorem dL_law_446 : decode cL_law 446 = .ok (.iadd, 1) := by decide +kernel
theorem dL_law_447 : decode cL_law 447 = .ok (.iaload, 1) := by decide +kernel
theorem dL_law_448 : decode cL_law 448 = .ok (.aload_n 3, 1) := by decide +kernel
theorem dL_law_449 : decode cL_law 449 = .ok (.invokestatic 117, 3) := by decide +kernel
theorem dL_law_452 : decode cL_law 452 = .ok (.istore 6, 2) := by decide +kernel
theorem dL_law_454 : decode cL_law 454 = .ok (.aload_n 2, 1) := by decide +kernel
theorem dL_law_455 : decode cL_law 455 = .ok (.aload_n 0, 1) := by decide +kernel
theorem dL_law_456 : decode cL_law 456 = .ok (.iload 5, 2) := by decide +kernel
theorem dL_law_458 : decode cL_law 458 = .ok (.iconst 1, 1) := by decide +kernel
theorem dL_law_459 : decode cL_law 459 = .ok (.iadd, 1) := by decide +kernel
theorem dL_law_460 : decode cL_law 460 = .ok (.iaload, 1) := by decide +kernel
theorem dL_law_461 : decode cL_law 461 = .ok (.invokevirtual 119, 3) := by decide +kernel
theorem dL_law_464 : decode cL_law 464 = .ok (.istore 7, 2) := by decide +kernel
theorem dL_law_466 : decode cL_law 466 = .ok (.aload_n 2, 1) := by decide +kernel
theorem dL_law_467 : decode cL_law 467 = .ok (.invokevirtual 97, 3) := by decide +kernel
theorem dL_law_470 : decode cL_law 470 = .ok (.iload 6, 2) := by decide +kernel
theorem dL_law_472 : decode cL_law 472 = .ok (.if_icmp .eq 5, 3) := by decide +kernel
theorem dL_law_475 : decode cL_law 475 = .ok (.iconst 0, 1) := by decide +kernel
theorem dL_law_476 : decode cL_law 476 = .ok (.ireturn, 1) := by decide +kernel
theorem dL_law_477 : decode cL_law 477 = .ok (.iload 6, 2) := by decide +kernel
theorem dL_law_479 : decode cL_law 479 = .ok (.ifCond .ne 15, 3) := by decide +kernel
theorem dL_law_482 : decode cL_law 482 = .ok (.aload_n 3, 1) := by decide +kernel
theorem dL_law_483 : decode cL_law 483 = .ok (.iconst 0, 1) := by decide +kernel
theorem dL_law_484 : decode cL_law 484 = .ok (.laload, 1) := by decide +kernel
theorem dL_law_485 : decode cL_law 485 = .ok (.iload 7, 2) := by decide +kernel
theorem dL_law_487 : decode cL_law 487 = .ok (.i2l, 1) := by decide +kernel
theorem dL_law_488 : decode cL_law 488 = .ok (.lcmp, 1) := by decide +kernel
theorem dL_law_489 : decode cL_law 489 = .ok (.ifCond .eq 5, 3) := by decide +kernel
theorem dL_law_492 : decode cL_law 492 = .ok (.iconst 0, 1) := by decide +kernel
theorem dL_law_493 : decode cL_law 493 = .ok (.ireturn, 1) := by decide +kernel
theorem dL_law_494 : decode cL_law 494 = .ok (.goto 949, 3) := by decide +kernel
theorem dL_law_497 : decode cL_law 497 = .ok (.aload_n 1, 1) := by decide +kernel
theorem dL_law_498 : decode cL_law 498 = .ok (.aload_n 0, 1) := by decide +kernel
theorem dL_law_499 : decode cL_law 499 = .ok (.iload 5, 2) := by decide +kernel
theorem dL_law_501 : decode cL_law 501 = .ok (.iconst 1, 1) := by decide +kernel
theorem dL_law_502 : decode cL_law 502 = .ok (.iadd, 1) := by decide +kernel
theorem dL_law_503 : decode cL_law 503 = .ok (.iaload, 1) := by decide +kernel
theorem dL_law_504 : decode cL_law 504 = .ok (.aload_n 0, 1) := by decide +kernel
theorem dL_law_505 : decode cL_law 505 = .ok (.iload 5, 2) := by decide +kernel
theorem dL_law_507 : decode cL_law 507 = .ok (.iconst 2, 1) := by decide +kernel
theorem dL_law_508 : decode cL_law 508 = .ok (.iadd, 1) := by decide +kernel
theorem dL_law_509 : decode cL_law 509 = .ok (.iaload, 1) := by decide +kernel
theorem dL_law_510 : decode cL_law 510 = .ok (.aload_n 0, 1) := by decide +kernel
theorem dL_law_511 : decode cL_law 511 = .ok (.iload 5, 2) := by decide +kernel
theorem dL_law_513 : decode cL_law 513 = .ok (.iconst 3, 1) := by decide +kernel
theorem dL_law_514 : decode cL_law 514 = .ok (.iadd, 1) := by decide +kernel
theorem dL_law_515 : decode cL_law 515 = .ok (.iaload, 1) := by decide +kernel
theorem dL_law_516 : decode cL_law 516 = .ok (.aload_n 3, 1) := by decide +kernel
theorem dL_law_517 : decode cL_law 517 = .ok (.invokestatic 120, 3) := by decide +kernel
theorem dL_law_520 : decode cL_law 520 = .ok (.istore 6, 2) := by decide +kernel
theorem dL_law_522 : decode cL_law 522 = .ok (.aload_n 2, 1) := by decide +kernel
theorem dL_law_523 : decode cL_law 523 = .ok (.aload_n 0, 1) := by decide +kernel
theorem dL_law_524 : decode cL_law 524 = .ok (.iload 5, 2) := by decide +kernel
theorem dL_law_526 : decode cL_law 526 = .ok (.iconst 1, 1) := by decide +kernel
theorem dL_law_527 : decode cL_law 527 = .ok (.iadd, 1) := by decide +kernel
theorem dL_law_528 : decode cL_law 528 = .ok (.iaload, 1) := by decide +kernel
theorem dL_law_529 : decode cL_law 529 = .ok (.aload_n 0, 1) := by decide +kernel
theorem dL_law_530 : decode cL_law 530 = .ok (.iload 5, 2) := by decide +kernel
theorem dL_law_532 : decode cL_law 532 = .ok (.iconst 2, 1) := by decide +kernel
theorem dL_law_533 : decode cL_law 533 = .ok (.iadd, 1) := by decide +kernel
theorem dL_law_534 : decode cL_law 534 = .ok (.iaload, 1) := by decide +kernel
theorem dL_law_535 : decode cL_law 535 = .ok (.aload_n 0, 1) := by decide +kernel
theorem dL_law_536 : decode cL_law 536 = .ok (.iload 5, 2) := by decide +kernel
theorem dL_law_538 : decode cL_law 538 = .ok (.iconst 3, 1) := by decide +kernel
theorem dL_law_539 : decode cL_law 539 = .ok (.iadd, 1) := by decide +kernel
theorem dL_law_540 : decode cL_law 540 = .ok (.iaload, 1) := by decide +kernel
theorem dL_law_541 : decode cL_law 541 = .ok (.invokevirtual 123, 3) := by decide +kernel
theorem dL_law_544 : decode cL_law 544 = .ok (.istore 7, 2) := by decide +kernel
theorem dL_law_546 : decode cL_law 546 = .ok (.aload_n 2, 1) := by decide +kernel
theorem dL_law_547 : decode cL_law 547 = .ok (.invokevirtual 97, 3) := by decide +kernel
theorem dL_law_550 : decode cL_law 550 = .ok (.iload 6, 2) := by decide +kernel
theorem dL_law_552 : decode cL_law 552 = .ok (.if_icmp .eq 5, 3) := by decide +kernel
theorem dL_law_555 : decode cL_law 555 = .ok (.iconst 0, 1) := by decide +kernel
theorem dL_law_556 : decode cL_law 556 = .ok (.ireturn, 1) := by decide +kernel
theorem dL_law_557 : decode cL_law 557 = .ok (.iload 6, 2) := by decide +kernel
theorem dL_law_559 : decode cL_law 559 = .ok (.ifCond .ne 15, 3) := by decide +kernel
theorem dL_law_562 : decode cL_law 562 = .ok (.aload_n 3, 1) := by decide +kernel
theorem dL_law_563 : decode cL_law 563 = .ok (.iconst 0, 1) := by decide +kernel
theorem dL_law_564 : decode cL_law 564 = .ok (.laload, 1) := by decide +kernel
theorem dL_law_565 : decode cL_law 565 = .ok (.iload 7, 2) := by decide +kernel
theorem dL_law_567 : decode cL_law 567 = .ok (.i2l, 1) := by decide +kernel
theorem dL_law_568 : decode cL_law 568 = .ok (.lcmp, 1) := by decide +kernel
theorem dL_law_569 : decode cL_law 569 = .ok (.ifCond .eq 5, 3) := by decide +kernel
theorem dL_law_572 : decode cL_law 572 = .ok (.iconst 0, 1) := by decide +kernel
theorem dL_law_573 : decode cL_law 573 = .ok (.ireturn, 1) := by decide +kernel
theorem dL_law_574 : decode cL_law 574 = .ok (.goto 869, 3) := by decide +kernel
theorem dL_law_577 : decode cL_law 577 = .ok (.aload_n 1, 1) := by decide +kernel
theorem dL_law_578 : decode cL_law 578 = .ok (.aload_n 0, 1) := by decide +kernel
theorem dL_law_579 : decode cL_law 579 = .ok (.iload 5, 2) := by decide +kernel
theorem dL_law_581 : decode cL_law 581 = .ok (.iconst 1, 1) := by decide +kernel
theorem dL_law_582 : decode cL_law 582 = .ok (.iadd, 1) := by decide +kernel
theorem dL_law_583 : decode cL_law 583 = .ok (.iaload, 1) := by decide +kernel
theorem dL_law_584 : decode cL_law 584 = .ok (.aload_n 3, 1) := by decide +kernel
theorem dL_law_585 : decode cL_law 585 = .ok (.invokestatic 124, 3) := by decide +kernel
theorem dL_law_588 : decode cL_law 588 = .ok (.istore 6, 2) := by decide +kernel
theorem dL_law_590 : decode cL_law 590 = .ok (.aload_n 2, 1) := by decide +kernel
theorem dL_law_591 : decode cL_law 591 = .ok (.aload_n 0, 1) := by decide +kernel
theorem dL_law_592 : decode cL_law 592 = .ok (.iload 5, 2) := by decide +kernel
theorem dL_law_594 : decode cL_law 594 = .ok (.iconst 1, 1) := by decide +kernel
theorem dL_law_595 : decode cL_law 595 = .ok (.iadd, 1) := by decide +kernel
theorem dL_law_596 : decode cL_law 596 = .ok (.iaload, 1) := by decide +kernel
theorem dL_law_597 : decode cL_law 597 = .ok (.invokevirtual 126, 3) := by decide +kernel
theorem dL_law_600 : decode cL_law 600 = .ok (.istore 7, 2) := by decide +kernel
theorem dL_law_602 : decode cL_law 602 = .ok (.aload_n 2, 1) := by decide +kernel
theorem dL_law_603 : decode cL_law 603 = .ok (.invokevirtual 97, 3) := by decide +kernel
theorem dL_law_606 : decode cL_law 606 = .ok (.iload 6, 2) := by decide +kernel
theorem dL_law_608 : decode cL_law 608 = .ok (.if_icmp .eq 5, 3) := by decide +kernel
theorem dL_law_611 : decode cL_law 611 = .ok (.iconst 0, 1) := by decide +kernel
theorem dL_law_612 : decode cL_law 612 = .ok (.ireturn, 1) := by decide +kernel
theorem dL_law_613 : decode cL_law 613 = .ok (.iload 6, 2) := by decide +kernel
theorem dL_law_615 : decode cL_law 615 = .ok (.ifCond .ne 15, 3) := by decide +kernel
theorem dL_law_618 : decode cL_law 618 = .ok (.aload_n 3, 1) := by decide +kernel
theorem dL_law_619 : decode cL_law 619 = .ok (.iconst 0, 1) := by decide +kernel
theorem dL_law_620 : decode cL_law 620 = .ok (.laload, 1) := by decide +kernel
theorem dL_law_621 : decode cL_law 621 = .ok (.iload 7, 2) := by decide +kernel
theorem dL_law_623 : decode cL_law 623 = .ok (.i2l, 1) := by decide +kernel
theorem dL_law_624 : decode cL_law 624 = .ok (.lcmp, 1) := by decide +kernel
theorem dL_law_625 : decode cL_law 625 = .ok (.ifCond .eq 5, 3) := by decide +kernel
theorem dL_law_628 : decode cL_law 628 = .ok (.iconst 0, 1) := by decide +kernel
theorem dL_law_629 : decode cL_law 629 = .ok (.ireturn, 1) := by decide +kernel
theorem dL_law_630 : decode cL_law 630 = .ok (.goto 813, 3) := by decide +kernel
theorem dL_law_633 : decode cL_law 633 = .ok (.aload_n 1, 1) := by decide +kernel
theorem dL_law_634 : decode cL_law 634 = .ok (.aload_n 0, 1) := by decide +kernel
theorem dL_law_635 : decode cL_law 635 = .ok (.iload 5, 2) := by decide +kernel
theorem dL_law_637 : decode cL_law 637 = .ok (.iconst 1, 1) := by decide +kernel
theorem dL_law_638 : decode cL_law 638 = .ok (.iadd, 1) := by decide +kernel
theorem dL_law_639 : decode cL_law 639 = .ok (.iaload, 1) := by decide +kernel
theorem dL_law_640 : decode cL_law 640 = .ok (.aload_n 3, 1) := by decide +kernel
theorem dL_law_641 : decode cL_law 641 = .ok (.invokestatic 127, 3) := by decide +kernel
theorem dL_law_644 : decode cL_law 644 = .ok (.istore 6, 2) := by decide +kernel
theorem dL_law_646 : decode cL_law 646 = .ok (.aload_n 2, 1) := by decide +kernel
theorem dL_law_647 : decode cL_law 647 = .ok (.aload_n 0, 1) := by decide +kernel
theorem dL_law_648 : decode cL_law 648 = .ok (.iload 5, 2) := by decide +kernel
theorem dL_law_650 : decode cL_law 650 = .ok (.iconst 1, 1) := by decide +kernel
theorem dL_law_651 : decode cL_law 651 = .ok (.iadd, 1) := by decide +kernel
theorem dL_law_652 : decode cL_law 652 = .ok (.iaload, 1) := by decide +kernel
theorem dL_law_653 : decode cL_law 653 = .ok (.invokevirtual 129, 3) := by decide +kernel
theorem dL_law_656 : decode cL_law 656 = .ok (.istore 7, 2) := by decide +kernel
theorem dL_law_658 : decode cL_law 658 = .ok (.aload_n 2, 1) := by decide +kernel
theorem dL_law_659 : decode cL_law 659 = .ok (.invokevirtual 97, 3) := by decide +kernel
theorem dL_law_662 : decode cL_law 662 = .ok (.iload 6, 2) := by decide +kernel
theorem dL_law_664 : decode cL_law 664 = .ok (.if_icmp .eq 5, 3) := by decide +kernel
theorem dL_law_667 : decode cL_law 667 = .ok (.iconst 0, 1) := by decide +kernel
theorem dL_law_668 : decode cL_law 668 = .ok (.ireturn, 1) := by decide +kernel
theorem dL_law_669 : decode cL_law 669 = .ok (.iload 6, 2) := by decide +kernel
theorem dL_law_671 : decode cL_law 671 = .ok (.ifCond .ne 15, 3) := by decide +kernel
theorem dL_law_674 : decode cL_law 674 = .ok (.aload_n 3, 1) := by decide +kernel
theorem dL_law_675 : decode cL_law 675 = .ok (.iconst 0, 1) := by decide +kernel
theorem dL_law_676 : decode cL_law 676 = .ok (.laload, 1) := by decide +kernel
theorem dL_law_677 : decode cL_law 677 = .ok (.iload 7, 2) := by decide +kernel
theorem dL_law_679 : decode cL_law 679 = .ok (.i2l, 1) := by decide +kernel
theorem dL_law_680 : decode cL_law 680 = .ok (.lcmp, 1) := by decide +kernel
theorem dL_law_681 : decode cL_law 681 = .ok (.ifCond .eq 5, 3) := by decide +kernel
theorem dL_law_684 : decode cL_law 684 = .ok (.iconst 0, 1) := by decide +kernel
theorem dL_law_685 : decode cL_law 685 = .ok (.ireturn, 1) := by decide +kernel
theorem dL_law_686 : decode cL_law 686 = .ok (.goto 757, 3) := by decide +kernel
theorem dL_law_689 : decode cL_law 689 = .ok (.aload_n 1, 1) := by decide +kernel
theorem dL_law_690 : decode cL_law 690 = .ok (.aload_n 0, 1) := by decide +kernel
theorem dL_law_691 : decode cL_law 691 = .ok (.iload 5, 2) := by decide +kernel
theorem dL_law_693 : decode cL_law 693 = .ok (.iconst 1, 1) := by decide +kernel
theorem dL_law_694 : decode cL_law 694 = .ok (.iadd, 1) := by decide +kernel
theorem dL_law_695 : decode cL_law 695 = .ok (.iaload, 1) := by decide +kernel
theorem dL_law_696 : decode cL_law 696 = .ok (.aload_n 3, 1) := by decide +kernel
theorem dL_law_697 : decode cL_law 697 = .ok (.invokestatic 130, 3) := by decide +kernel
theorem dL_law_700 : decode cL_law 700 = .ok (.istore 6, 2) := by decide +kernel
theorem dL_law_702 : decode cL_law 702 = .ok (.aload_n 2, 1) := by decide +kernel
theorem dL_law_703 : decode cL_law 703 = .ok (.aload_n 0, 1) := by decide +kernel
theorem dL_law_704 : decode cL_law 704 = .ok (.iload 5, 2) := by decide +kernel
theorem dL_law_706 : decode cL_law 706 = .ok (.iconst 1, 1) := by decide +kernel
theorem dL_law_707 : decode cL_law 707 = .ok (.iadd, 1) := by decide +kernel
theorem dL_law_708 : decode cL_law 708 = .ok (.iaload, 1) := by decide +kernel
theorem dL_law_709 : decode cL_law 709 = .ok (.invokevirtual 132, 3) := by decide +kernel
theorem dL_law_712 : decode cL_law 712 = .ok (.istore 7, 2) := by decide +kernel
theorem dL_law_714 : decode cL_law 714 = .ok (.aload_n 2, 1) := by decide +kernel
theorem dL_law_715 : decode cL_law 715 = .ok (.invokevirtual 97, 3) := by decide +kernel
theorem dL_law_718 : decode cL_law 718 = .ok (.iload 6, 2) := by decide +kernel
theorem dL_law_720 : decode cL_law 720 = .ok (.if_icmp .eq 5, 3) := by decide +kernel
theorem dL_law_723 : decode cL_law 723 = .ok (.iconst 0, 1) := by decide +kernel
theorem dL_law_724 : decode cL_law 724 = .ok (.ireturn, 1) := by decide +kernel
theorem dL_law_725 : decode cL_law 725 = .ok (.iload 6, 2) := by decide +kernel
theorem dL_law_727 : decode cL_law 727 = .ok (.ifCond .ne 15, 3) := by decide +kernel
theorem dL_law_730 : decode cL_law 730 = .ok (.aload_n 3, 1) := by decide +kernel
theorem dL_law_731 : decode cL_law 731 = .ok (.iconst 0, 1) := by decide +kernel
theorem dL_law_732 : decode cL_law 732 = .ok (.laload, 1) := by decide +kernel
theorem dL_law_733 : decode cL_law 733 = .ok (.iload 7, 2) := by decide +kernel
theorem dL_law_735 : decode cL_law 735 = .ok (.i2l, 1) := by decide +kernel
theorem dL_law_736 : decode cL_law 736 = .ok (.lcmp, 1) := by decide +kernel
theorem dL_law_737 : decode cL_law 737 = .ok (.ifCond .eq 5, 3) := by decide +kernel
theorem dL_law_740 : decode cL_law 740 = .ok (.iconst 0, 1) := by decide +kernel
theorem dL_law_741 : decode cL_law 741 = .ok (.ireturn, 1) := by decide +kernel
theorem dL_law_742 : decode cL_law 742 = .ok (.goto 701, 3) := by decide +kernel
theorem dL_law_745 : decode cL_law 745 = .ok (.aload_n 1, 1) := by decide +kernel
theorem dL_law_746 : decode cL_law 746 = .ok (.aload_n 0, 1) := by decide +kernel
theorem dL_law_747 : decode cL_law 747 = .ok (.iload 5, 2) := by decide +kernel
theorem dL_law_749 : decode cL_law 749 = .ok (.iconst 1, 1) := by decide +kernel
theorem dL_law_750 : decode cL_law 750 = .ok (.iadd, 1) := by decide +kernel
theorem dL_law_751 : decode cL_law 751 = .ok (.iaload, 1) := by decide +kernel
theorem dL_law_752 : decode cL_law 752 = .ok (.aload_n 3, 1) := by decide +kernel
theorem dL_law_753 : decode cL_law 753 = .ok (.invokestatic 133, 3) := by decide +kernel
theorem dL_law_756 : decode cL_law 756 = .ok (.istore 6, 2) := by decide +kernel
theorem dL_law_758 : decode cL_law 758 = .ok (.aload_n 2, 1) := by decide +kernel
theorem dL_law_759 : decode cL_law 759 = .ok (.aload_n 0, 1) := by decide +kernel
theorem dL_law_760 : decode cL_law 760 = .ok (.iload 5, 2) := by decide +kernel
theorem dL_law_762 : decode cL_law 762 = .ok (.iconst 1, 1) := by decide +kernel
theorem dL_law_763 : decode cL_law 763 = .ok (.iadd, 1) := by decide +kernel
theorem dL_law_764 : decode cL_law 764 = .ok (.iaload, 1) := by decide +kernel
theorem dL_law_765 : decode cL_law 765 = .ok (.invokevirtual 135, 3) := by decide +kernel
theorem dL_law_768 : decode cL_law 768 = .ok (.istore 7, 2) := by decide +kernel
theorem dL_law_770 : decode cL_law 770 = .ok (.aload_n 2, 1) := by decide +kernel
theorem dL_law_771 : decode cL_law 771 = .ok (.invokevirtual 97, 3) := by decide +kernel
theorem dL_law_774 : decode cL_law 774 = .ok (.iload 6, 2) := by decide +kernel
theorem dL_law_776 : decode cL_law 776 = .ok (.if_icmp .eq 5, 3) := by decide +kernel
theorem dL_law_779 : decode cL_law 779 = .ok (.iconst 0, 1) := by decide +kernel
theorem dL_law_780 : decode cL_law 780 = .ok (.ireturn, 1) := by decide +kernel
theorem dL_law_781 : decode cL_law 781 = .ok (.iload 6, 2) := by decide +kernel
theorem dL_law_783 : decode cL_law 783 = .ok (.ifCond .ne 15, 3) := by decide +kernel
theorem dL_law_786 : decode cL_law 786 = .ok (.aload_n 3, 1) := by decide +kernel
theorem dL_law_787 : decode cL_law 787 = .ok (.iconst 0, 1) := by decide +kernel
theorem dL_law_788 : decode cL_law 788 = .ok (.laload, 1) := by decide +kernel
theorem dL_law_789 : decode cL_law 789 = .ok (.iload 7, 2) := by decide +kernel
theorem dL_law_791 : decode cL_law 791 = .ok (.i2l, 1) := by decide +kernel
theorem dL_law_792 : decode cL_law 792 = .ok (.lcmp, 1) := by decide +kernel
theorem dL_law_793 : decode cL_law 793 = .ok (.ifCond .eq 5, 3) := by decide +kernel
theorem dL_law_796 : decode cL_law 796 = .ok (.iconst 0, 1) := by decide +kernel
theorem dL_law_797 : decode cL_law 797 = .ok (.ireturn, 1) := by decide +kernel
theorem dL_law_798 : decode cL_law 798 = .ok (.goto 645, 3) := by decide +kernel
theorem dL_law_801 : decode cL_law 801 = .ok (.aload_n 1, 1) := by decide +kernel
theorem dL_law_802 : decode cL_law 802 = .ok (.aload_n 0, 1) := by decide +kernel
theorem dL_law_803 : decode cL_law 803 = .ok (.iload 5, 2) := by decide +kernel
theorem dL_law_805 : decode cL_law 805 = .ok (.iconst 1, 1) := by decide +kernel
theorem dL_law_806 : decode cL_law 806 = .ok (.iadd, 1) := by decide +kernel
theorem dL_law_807 : decode cL_law 807 = .ok (.iaload, 1) := by decide +kernel
theorem dL_law_808 : decode cL_law 808 = .ok (.aload_n 3, 1) := by decide +kernel
theorem dL_law_809 : decode cL_law 809 = .ok (.invokestatic 136, 3) := by decide +kernel
theorem dL_law_812 : decode cL_law 812 = .ok (.istore 6, 2) := by decide +kernel
theorem dL_law_814 : decode cL_law 814 = .ok (.aload_n 2, 1) := by decide +kernel
theorem dL_law_815 : decode cL_law 815 = .ok (.aload_n 0, 1) := by decide +kernel
theorem dL_law_816 : decode cL_law 816 = .ok (.iload 5, 2) := by decide +kernel
theorem dL_law_818 : decode cL_law 818 = .ok (.iconst 1, 1) := by decide +kernel
theorem dL_law_819 : decode cL_law 819 = .ok (.iadd, 1) := by decide +kernel
theorem dL_law_820 : decode cL_law 820 = .ok (.iaload, 1) := by decide +kernel
theorem dL_law_821 : decode cL_law 821 = .ok (.invokevirtual 138, 3) := by decide +kernel
theorem dL_law_824 : decode cL_law 824 = .ok (.istore 7, 2) := by decide +kernel
theorem dL_law_826 : decode cL_law 826 = .ok (.aload_n 2, 1) := by decide +kernel
theorem dL_law_827 : decode cL_law 827 = .ok (.invokevirtual 97, 3) := by decide +kernel
theorem dL_law_830 : decode cL_law 830 = .ok (.iload 6, 2) := by decide +kernel
theorem dL_law_832 : decode cL_law 832 = .ok (.if_icmp .eq 5, 3) := by decide +kernel
theorem dL_law_835 : decode cL_law 835 = .ok (.iconst 0, 1) := by decide +kernel
theorem dL_law_836 : decode cL_law 836 = .ok (.ireturn, 1) := by decide +kernel
theorem dL_law_837 : decode cL_law 837 = .ok (.iload 6, 2) := by decide +kernel
theorem dL_law_839 : decode cL_law 839 = .ok (.ifCond .ne 15, 3) := by decide +kernel
theorem dL_law_842 : decode cL_law 842 = .ok (.aload_n 3, 1) := by decide +kernel
theorem dL_law_843 : decode cL_law 843 = .ok (.iconst 0, 1) := by decide +kernel
theorem dL_law_844 : decode cL_law 844 = .ok (.laload, 1) := by decide +kernel
theorem dL_law_845 : decode cL_law 845 = .ok (.iload 7, 2) := by decide +kernel
theorem dL_law_847 : decode cL_law 847 = .ok (.i2l, 1) := by decide +kernel
theorem dL_law_848 : decode cL_law 848 = .ok (.lcmp, 1) := by decide +kernel
theorem dL_law_849 : decode cL_law 849 = .ok (.ifCond .eq 5, 3) := by decide +kernel
theorem dL_law_852 : decode cL_law 852 = .ok (.iconst 0, 1) := by decide +kernel
theorem dL_law_853 : decode cL_law 853 = .ok (.ireturn, 1) := by decide +kernel
theorem dL_law_854 : decode cL_law 854 = .ok (.goto 589, 3) := by decide +kernel
theorem dL_law_857 : decode cL_law 857 = .ok (.aload_n 1, 1) := by decide +kernel
theorem dL_law_858 : decode cL_law 858 = .ok (.aload_n 0, 1) := by decide +kernel
theorem dL_law_859 : decode cL_law 859 = .ok (.iload 5, 2) := by decide +kernel
theorem dL_law_861 : decode cL_law 861 = .ok (.iconst 1, 1) := by decide +kernel
theorem dL_law_862 : decode cL_law 862 = .ok (.iadd, 1) := by decide +kernel
theorem dL_law_863 : decode cL_law 863 = .ok (.iaload, 1) := by decide +kernel
theorem dL_law_864 : decode cL_law 864 = .ok (.aload_n 3, 1) := by decide +kernel
theorem dL_law_865 : decode cL_law 865 = .ok (.invokestatic 139, 3) := by decide +kernel
theorem dL_law_868 : decode cL_law 868 = .ok (.istore 6, 2) := by decide +kernel
theorem dL_law_870 : decode cL_law 870 = .ok (.aload_n 2, 1) := by decide +kernel
theorem dL_law_871 : decode cL_law 871 = .ok (.aload_n 0, 1) := by decide +kernel
theorem dL_law_872 : decode cL_law 872 = .ok (.iload 5, 2) := by decide +kernel
theorem dL_law_874 : decode cL_law 874 = .ok (.iconst 1, 1) := by decide +kernel
theorem dL_law_875 : decode cL_law 875 = .ok (.iadd, 1) := by decide +kernel
theorem dL_law_876 : decode cL_law 876 = .ok (.iaload, 1) := by decide +kernel
theorem dL_law_877 : decode cL_law 877 = .ok (.invokevirtual 141, 3) := by decide +kernel
theorem dL_law_880 : decode cL_law 880 = .ok (.istore 7, 2) := by decide +kernel
theorem dL_law_882 : decode cL_law 882 = .ok (.aload_n 2, 1) := by decide +kernel
theorem dL_law_883 : decode cL_law 883 = .ok (.invokevirtual 97, 3) := by decide +kernel
theorem dL_law_886 : decode cL_law 886 = .ok (.iload 6, 2) := by decide +kernel
theorem dL_law_888 : decode cL_law 888 = .ok (.if_icmp .eq 5, 3) := by decide +kernel
theorem dL_law_891 : decode cL_law 891 = .ok (.iconst 0, 1) := by decide +kernel
theorem dL_law_892 : decode cL_law 892 = .ok (.ireturn, 1) := by decide +kernel
theorem dL_law_893 : decode cL_law 893 = .ok (.iload 6, 2) := by decide +kernel
theorem dL_law_895 : decode cL_law 895 = .ok (.ifCond .ne 15, 3) := by decide +kernel
theorem dL_law_898 : decode cL_law 898 = .ok (.aload_n 3, 1) := by decide +kernel
theorem dL_law_899 : decode cL_law 899 = .ok (.iconst 0, 1) := by decide +kernel
theorem dL_law_900 : decode cL_law 900 = .ok (.laload, 1) := by decide +kernel
theorem dL_law_901 : decode cL_law 901 = .ok (.iload 7, 2) := by decide +kernel
theorem dL_law_903 : decode cL_law 903 = .ok (.i2l, 1) := by decide +kernel
theorem dL_law_904 : decode cL_law 904 = .ok (.lcmp, 1) := by decide +kernel
theorem dL_law_905 : decode cL_law 905 = .ok (.ifCond .eq 5, 3) := by decide +kernel
theorem dL_law_908 : decode cL_law 908 = .ok (.iconst 0, 1) := by decide +kernel
theorem dL_law_909 : decode cL_law 909 = .ok (.ireturn, 1) := by decide +kernel
theorem dL_law_910 : decode cL_law 910 = .ok (.goto 533, 3) := by decide +kernel
theorem dL_law_913 : decode cL_law 913 = .ok (.aload_n 1, 1) := by decide +kernel
theorem dL_law_914 : decode cL_law 914 = .ok (.aload_n 0, 1) := by decide +kernel
theorem dL_law_915 : decode cL_law 915 = .ok (.iload 5, 2) := by decide +kernel
theorem dL_law_917 : decode cL_law 917 = .ok (.iconst 1, 1) := by decide +kernel
theorem dL_law_918 : decode cL_law 918 = .ok (.iadd, 1) := by decide +kernel
theorem dL_law_919 : decode cL_law 919 = .ok (.iaload, 1) := by decide +kernel
theorem dL_law_920 : decode cL_law 920 = .ok (.aload_n 3, 1) := by decide +kernel
theorem dL_law_921 : decode cL_law 921 = .ok (.invokestatic 142, 3) := by decide +kernel
theorem dL_law_924 : decode cL_law 924 = .ok (.istore 6, 2) := by decide +kernel
theorem dL_law_926 : decode cL_law 926 = .ok (.aload_n 2, 1) := by decide +kernel
theorem dL_law_927 : decode cL_law 927 = .ok (.aload_n 0, 1) := by decide +kernel
theorem dL_law_928 : decode cL_law 928 = .ok (.iload 5, 2) := by decide +kernel
theorem dL_law_930 : decode cL_law 930 = .ok (.iconst 1, 1) := by decide +kernel
theorem dL_law_931 : decode cL_law 931 = .ok (.iadd, 1) := by decide +kernel
theorem dL_law_932 : decode cL_law 932 = .ok (.iaload, 1) := by decide +kernel
theorem dL_law_933 : decode cL_law 933 = .ok (.invokevirtual 144, 3) := by decide +kernel
theorem dL_law_936 : decode cL_law 936 = .ok (.istore 7, 2) := by decide +kernel
theorem dL_law_938 : decode cL_law 938 = .ok (.aload_n 2, 1) := by decide +kernel
theorem dL_law_939 : decode cL_law 939 = .ok (.invokevirtual 97, 3) := by decide +kernel
theorem dL_law_942 : decode cL_law 942 = .ok (.iload 6, 2) := by decide +kernel
theorem dL_law_944 : decode cL_law 944 = .ok (.if_icmp .eq 5, 3) := by decide +kernel
theorem dL_law_947 : decode cL_law 947 = .ok (.iconst 0, 1) := by decide +kernel
theorem dL_law_948 : decode cL_law 948 = .ok (.ireturn, 1) := by decide +kernel
theorem dL_law_949 : decode cL_law 949 = .ok (.iload 6, 2) := by decide +kernel
theorem dL_law_951 : decode cL_law 951 = .ok (.ifCond .ne 15, 3) := by decide +kernel
theorem dL_law_954 : decode cL_law 954 = .ok (.aload_n 3, 1) := by decide +kernel
theorem dL_law_955 : decode cL_law 955 = .ok (.iconst 0, 1) := by decide +kernel
theorem dL_law_956 : decode cL_law 956 = .ok (.laload, 1) := by decide +kernel
theorem dL_law_957 : decode cL_law 957 = .ok (.iload 7, 2) := by decide +kernel
theorem dL_law_959 : decode cL_law 959 = .ok (.i2l, 1) := by decide +kernel
theorem dL_law_960 : decode cL_law 960 = .ok (.lcmp, 1) := by decide +kernel
theorem dL_law_961 : decode cL_law 961 = .ok (.ifCond .eq 5, 3) := by decide +kernel
theorem dL_law_964 : decode cL_law 964 = .ok (.iconst 0, 1) := by decide +kernel
theorem dL_law_965 : decode cL_law 965 = .ok (.ireturn, 1) := by decide +kernel
theorem dL_law_966 : decode cL_law 966 = .ok (.goto 477, 3) := by decide +kernel
theorem dL_law_969 : decode cL_law 969 = .ok (.aload_n 1, 1) := by decide +kernel
theorem dL_law_970 : decode cL_law 970 = .ok (.aload_n 0, 1) := by decide +kernel
theorem dL_law_971 : decode cL_law 971 = .ok (.iload 5, 2) := by decide +kernel
theorem dL_law_973 : decode cL_law 973 = .ok (.iconst 1, 1) := by decide +kernel
theorem dL_law_974 : decode cL_law 974 = .ok (.iadd, 1) := by decide +kernel
theorem dL_law_975 : decode cL_law 975 = .ok (.iaload, 1) := by decide +kernel
theorem dL_law_976 : decode cL_law 976 = .ok (.aload_n 3, 1) := by decide +kernel
theorem dL_law_977 : decode cL_law 977 = .ok (.invokestatic 145, 3) := by decide +kernel
theorem dL_law_980 : decode cL_law 980 = .ok (.istore 6, 2) := by decide +kernel
theorem dL_law_982 : decode cL_law 982 = .ok (.aload_n 2, 1) := by decide +kernel
theorem dL_law_983 : decode cL_law 983 = .ok (.aload_n 0, 1) := by decide +kernel
theorem dL_law_984 : decode cL_law 984 = .ok (.iload 5, 2) := by decide +kernel
theorem dL_law_986 : decode cL_law 986 = .ok (.iconst 1, 1) := by decide +kernel
theorem dL_law_987 : decode cL_law 987 = .ok (.iadd, 1) := by decide +kernel
theorem dL_law_988 : decode cL_law 988 = .ok (.iaload, 1) := by decide +kernel
theorem dL_law_989 : decode cL_law 989 = .ok (.invokevirtual 147, 3) := by decide +kernel
theorem dL_law_992 : decode cL_law 992 = .ok (.istore 7, 2) := by decide +kernel
theorem dL_law_994 : decode cL_law 994 = .ok (.aload_n 2, 1) := by decide +kernel
theorem dL_law_995 : decode cL_law 995 = .ok (.invokevirtual 97, 3) := by decide +kernel
theorem dL_law_998 : decode cL_law 998 = .ok (.iload 6, 2) := by decide +kernel
theorem dL_law_1000 : decode cL_law 1000 = .ok (.if_icmp .eq 5, 3) := by decide +kernel
theorem dL_law_1003 : decode cL_law 1003 = .ok (.iconst 0, 1) := by decide +kernel
theorem dL_law_1004 : decode cL_law 1004 = .ok (.ireturn, 1) := by decide +kernel
theorem dL_law_1005 : decode cL_law 1005 = .ok (.iload 6, 2) := by decide +kernel
theorem dL_law_1007 : decode cL_law 1007 = .ok (.ifCond .ne 15, 3) := by decide +kernel
theorem dL_law_1010 : decode cL_law 1010 = .ok (.aload_n 3, 1) := by decide +kernel
theorem dL_law_1011 : decode cL_law 1011 = .ok (.iconst 0, 1) := by decide +kernel
theorem dL_law_1012 : decode cL_law 1012 = .ok (.laload, 1) := by decide +kernel
theorem dL_law_1013 : decode cL_law 1013 = .ok (.iload 7, 2) := by decide +kernel
theorem dL_law_1015 : decode cL_law 1015 = .ok (.i2l, 1) := by decide +kernel
theorem dL_law_1016 : decode cL_law 1016 = .ok (.lcmp, 1) := by decide +kernel
theorem dL_law_1017 : decode cL_law 1017 = .ok (.ifCond .eq 5, 3) := by decide +kernel
theorem dL_law_1020 : decode cL_law 1020 = .ok (.iconst 0, 1) := by decide +kernel
theorem dL_law_1021 : decode cL_law 1021 = .ok (.ireturn, 1) := by decide +kernel
theorem dL_law_1022 : decode cL_law 1022 = .ok (.goto 421, 3) := by decide +kernel
theorem dL_law_1025 : decode cL_law 1025 = .ok (.aload_n 1, 1) := by decide +kernel
theorem dL_law_1026 : decode cL_law 1026 = .ok (.aload_n 0, 1) := by decide +kernel
theorem dL_law_1027 : decode cL_law 1027 = .ok (.iload 5, 2) := by decide +kernel
theorem dL_law_1029 : decode cL_law 1029 = .ok (.iconst 1, 1) := by decide +kernel
theorem dL_law_1030 : decode cL_law 1030 = .ok (.iadd, 1) := by decide +kernel
theorem dL_law_1031 : decode cL_law 1031 = .ok (.iaload, 1) := by decide +kernel
theorem dL_law_1032 : decode cL_law 1032 = .ok (.aload_n 0, 1) := by decide +kernel
theorem dL_law_1033 : decode cL_law 1033 = .ok (.iload 5, 2) := by decide +kernel
theorem dL_law_1035 : decode cL_law 1035 = .ok (.iconst 2, 1) := by decide +kernel
theorem dL_law_1036 : decode cL_law 1036 = .ok (.iadd, 1) := by decide +kernel
theorem dL_law_1037 : decode cL_law 1037 = .ok (.iaload, 1) := by decide +kernel
theorem dL_law_1038 : decode cL_law 1038 = .ok (.aload_n 0, 1) := by decide +kernel
theorem dL_law_1039 : decode cL_law 1039 = .ok (.iload 5, 2) := by decide +kernel
theorem dL_law_1041 : decode cL_law 1041 = .ok (.iconst 3, 1) := by decide +kernel
theorem dL_law_1042 : decode cL_law 1042 = .ok (.iadd, 1) := by decide +kernel
theorem dL_law_1043 : decode cL_law 1043 = .ok (.iaload, 1) := by decide +kernel
theorem dL_law_1044 : decode cL_law 1044 = .ok (.aload_n 3, 1) := by decide +kernel
theorem dL_law_1045 : decode cL_law 1045 = .ok (.invokestatic 148, 3) := by decide +kernel
theorem dL_law_1048 : decode cL_law 1048 = .ok (.istore 6, 2) := by decide +kernel
theorem dL_law_1050 : decode cL_law 1050 = .ok (.aload_n 2, 1) := by decide +kernel
theorem dL_law_1051 : decode cL_law 1051 = .ok (.aload_n 0, 1) := by decide +kernel
theorem dL_law_1052 : decode cL_law 1052 = .ok (.iload 5, 2) := by decide +kernel
theorem dL_law_1054 : decode cL_law 1054 = .ok (.iconst 1, 1) := by decide +kernel
theorem dL_law_1055 : decode cL_law 1055 = .ok (.iadd, 1) := by decide +kernel
theorem dL_law_1056 : decode cL_law 1056 = .ok (.iaload, 1) := by decide +kernel
theorem dL_law_1057 : decode cL_law 1057 = .ok (.aload_n 0, 1) := by decide +kernel
theorem dL_law_1058 : decode cL_law 1058 = .ok (.iload 5, 2) := by decide +kernel
theorem dL_law_1060 : decode cL_law 1060 = .ok (.iconst 2, 1) := by decide +kernel
theorem dL_law_1061 : decode cL_law 1061 = .ok (.iadd, 1) := by decide +kernel
theorem dL_law_1062 : decode cL_law 1062 = .ok (.iaload, 1) := by decide +kernel
theorem dL_law_1063 : decode cL_law 1063 = .ok (.aload_n 0, 1) := by decide +kernel
theorem dL_law_1064 : decode cL_law 1064 = .ok (.iload 5, 2) := by decide +kernel
theorem dL_law_1066 : decode cL_law 1066 = .ok (.iconst 3, 1) := by decide +kernel
theorem dL_law_1067 : decode cL_law 1067 = .ok (.iadd, 1) := by decide +kernel
theorem dL_law_1068 : decode cL_law 1068 = .ok (.iaload, 1) := by decide +kernel
theorem dL_law_1069 : decode cL_law 1069 = .ok (.invokevirtual 150, 3) := by decide +kernel
theorem dL_law_1072 : decode cL_law 1072 = .ok (.istore 7, 2) := by decide +kernel
theorem dL_law_1074 : decode cL_law 1074 = .ok (.aload_n 2, 1) := by decide +kernel
theorem dL_law_1075 : decode cL_law 1075 = .ok (.invokevirtual 97, 3) := by decide +kernel
theorem dL_law_1078 : decode cL_law 1078 = .ok (.iload 6, 2) := by decide +kernel
theorem dL_law_1080 : decode cL_law 1080 = .ok (.if_icmp .eq 5, 3) := by decide +kernel
theorem dL_law_1083 : decode cL_law 1083 = .ok (.iconst 0, 1) := by decide +kernel
theorem dL_law_1084 : decode cL_law 1084 = .ok (.ireturn, 1) := by decide +kernel
theorem dL_law_1085 : decode cL_law 1085 = .ok (.iload 6, 2) := by decide +kernel
theorem dL_law_1087 : decode cL_law 1087 = .ok (.ifCond .ne 15, 3) := by decide +kernel
theorem dL_law_1090 : decode cL_law 1090 = .ok (.aload_n 3, 1) := by decide +kernel
theorem dL_law_1091 : decode cL_law 1091 = .ok (.iconst 0, 1) := by decide +kernel
theorem dL_law_1092 : decode cL_law 1092 = .ok (.laload, 1) := by decide +kernel
theorem dL_law_1093 : decode cL_law 1093 = .ok (.iload 7, 2) := by decide +kernel
theorem dL_law_1095 : decode cL_law 1095 = .ok (.i2l, 1) := by decide +kernel
theorem dL_law_1096 : decode cL_law 1096 = .ok (.lcmp, 1) := by decide +kernel
theorem dL_law_1097 : decode cL_law 1097 = .ok (.ifCond .eq 5, 3) := by decide +kernel
theorem dL_law_1100 : decode cL_law 1100 = .ok (.iconst 0, 1) := by decide +kernel
theorem dL_law_1101 : decode cL_law 1101 = .ok (.ireturn, 1) := by decide +kernel
theorem dL_law_1102 : decode cL_law 1102 = .ok (.goto 341, 3) := by decide +kernel
theorem dL_law_1105 : decode cL_law 1105 = .ok (.aload_n 1, 1) := by decide +kernel
theorem dL_law_1106 : decode cL_law 1106 = .ok (.aload_n 0, 1) := by decide +kernel
theorem dL_law_1107 : decode cL_law 1107 = .ok (.iload 5, 2) := by decide +kernel
theorem dL_law_1109 : decode cL_law 1109 = .ok (.iconst 1, 1) := by decide +kernel
theorem dL_law_1110 : decode cL_law 1110 = .ok (.iadd, 1) := by decide +kernel
theorem dL_law_1111 : decode cL_law 1111 = .ok (.iaload, 1) := by decide +kernel
theorem dL_law_1112 : decode cL_law 1112 = .ok (.aload_n 3, 1) := by decide +kernel
theorem dL_law_1113 : decode cL_law 1113 = .ok (.invokestatic 151, 3) := by decide +kernel
theorem dL_law_1116 : decode cL_law 1116 = .ok (.istore 6, 2) := by decide +kernel
theorem dL_law_1118 : decode cL_law 1118 = .ok (.aload_n 2, 1) := by decide +kernel
theorem dL_law_1119 : decode cL_law 1119 = .ok (.aload_n 0, 1) := by decide +kernel
theorem dL_law_1120 : decode cL_law 1120 = .ok (.iload 5, 2) := by decide +kernel
theorem dL_law_1122 : decode cL_law 1122 = .ok (.iconst 1, 1) := by decide +kernel
theorem dL_law_1123 : decode cL_law 1123 = .ok (.iadd, 1) := by decide +kernel
theorem dL_law_1124 : decode cL_law 1124 = .ok (.iaload, 1) := by decide +kernel
theorem dL_law_1125 : decode cL_law 1125 = .ok (.invokevirtual 153, 3) := by decide +kernel
theorem dL_law_1128 : decode cL_law 1128 = .ok (.istore 7, 2) := by decide +kernel
theorem dL_law_1130 : decode cL_law 1130 = .ok (.aload_n 2, 1) := by decide +kernel
theorem dL_law_1131 : decode cL_law 1131 = .ok (.invokevirtual 97, 3) := by decide +kernel
theorem dL_law_1134 : decode cL_law 1134 = .ok (.iload 6, 2) := by decide +kernel
theorem dL_law_1136 : decode cL_law 1136 = .ok (.if_icmp .eq 5, 3) := by decide +kernel
theorem dL_law_1139 : decode cL_law 1139 = .ok (.iconst 0, 1) := by decide +kernel
theorem dL_law_1140 : decode cL_law 1140 = .ok (.ireturn, 1) := by decide +kernel
theorem dL_law_1141 : decode cL_law 1141 = .ok (.iload 6, 2) := by decide +kernel
theorem dL_law_1143 : decode cL_law 1143 = .ok (.ifCond .ne 15, 3) := by decide +kernel
theorem dL_law_1146 : decode cL_law 1146 = .ok (.aload_n 3, 1) := by decide +kernel
theorem dL_law_1147 : decode cL_law 1147 = .ok (.iconst 0, 1) := by decide +kernel
theorem dL_law_1148 : decode cL_law 1148 = .ok (.laload, 1) := by decide +kernel
theorem dL_law_1149 : decode cL_law 1149 = .ok (.iload 7, 2) := by decide +kernel
theorem dL_law_1151 : decode cL_law 1151 = .ok (.i2l, 1) := by decide +kernel
theorem dL_law_1152 : decode cL_law 1152 = .ok (.lcmp, 1) := by decide +kernel
theorem dL_law_1153 : decode cL_law 1153 = .ok (.ifCond .eq 5, 3) := by decide +kernel
theorem dL_law_1156 : decode cL_law 1156 = .ok (.iconst 0, 1) := by decide +kernel
theorem dL_law_1157 : decode cL_law 1157 = .ok (.ireturn, 1) := by decide +kernel
theorem dL_law_1158 : decode cL_law 1158 = .ok (.goto 285, 3) := by decide +kernel
theorem dL_law_1161 : decode cL_law 1161 = .ok (.aload_n 1, 1) := by decide +kernel
theorem dL_law_1162 : decode cL_law 1162 = .ok (.invokevirtual 154, 3) := by decide +kernel
theorem dL_law_1165 : decode cL_law 1165 = .ok (.aload_n 2, 1) := by decide +kernel
theorem dL_law_1166 : decode cL_law 1166 = .ok (.invokevirtual 157, 3) := by decide +kernel
theorem dL_law_1169 : decode cL_law 1169 = .ok (.if_icmp .eq 274, 3) := by decide +kernel
theorem dL_law_1172 : decode cL_law 1172 = .ok (.iconst 0, 1) := by decide +kernel
theorem dL_law_1173 : decode cL_law 1173 = .ok (.ireturn, 1) := by decide +kernel
theorem dL_law_1174 : decode cL_law 1174 = .ok (.aload_n 1, 1) := by decide +kernel
theorem dL_law_1175 : decode cL_law 1175 = .ok (.invokevirtual 158, 3) := by decide +kernel
theorem dL_law_1178 : decode cL_law 1178 = .ok (.aload_n 2, 1) := by decide +kernel
theorem dL_law_1179 : decode cL_law 1179 = .ok (.invokevirtual 161, 3) := by decide +kernel
theorem dL_law_1182 : decode cL_law 1182 = .ok (.if_icmp .eq 261, 3) := by decide +kernel
theorem dL_law_1185 : decode cL_law 1185 = .ok (.iconst 0, 1) := by decide +kernel
theorem dL_law_1186 : decode cL_law 1186 = .ok (.ireturn, 1) := by decide +kernel
theorem dL_law_1187 : decode cL_law 1187 = .ok (.aload_n 1, 1) := by decide +kernel
theorem dL_law_1188 : decode cL_law 1188 = .ok (.invokevirtual 162, 3) := by decide +kernel
theorem dL_law_1191 : decode cL_law 1191 = .ok (.aload_n 2, 1) := by decide +kernel
theorem dL_law_1192 : decode cL_law 1192 = .ok (.invokevirtual 165, 3) := by decide +kernel
theorem dL_law_1195 : decode cL_law 1195 = .ok (.if_icmp .eq 248, 3) := by decide +kernel
theorem dL_law_1198 : decode cL_law 1198 = .ok (.iconst 0, 1) := by decide +kernel
theorem dL_law_1199 : decode cL_law 1199 = .ok (.ireturn, 1) := by decide +kernel
theorem dL_law_1200 : decode cL_law 1200 = .ok (.aload_n 1, 1) := by decide +kernel
theorem dL_law_1201 : decode cL_law 1201 = .ok (.invokevirtual 166, 3) := by decide +kernel
theorem dL_law_1204 : decode cL_law 1204 = .ok (.aload_n 2, 1) := by decide +kernel
theorem dL_law_1205 : decode cL_law 1205 = .ok (.invokevirtual 170, 3) := by decide +kernel
theorem dL_law_1208 : decode cL_law 1208 = .ok (.lcmp, 1) := by decide +kernel
theorem dL_law_1209 : decode cL_law 1209 = .ok (.ifCond .eq 234, 3) := by decide +kernel
theorem dL_law_1212 : decode cL_law 1212 = .ok (.iconst 0, 1) := by decide +kernel
theorem dL_law_1213 : decode cL_law 1213 = .ok (.ireturn, 1) := by decide +kernel
theorem dL_law_1214 : decode cL_law 1214 = .ok (.aload_n 1, 1) := by decide +kernel
theorem dL_law_1215 : decode cL_law 1215 = .ok (.invokevirtual 171, 3) := by decide +kernel
theorem dL_law_1218 : decode cL_law 1218 = .ok (.aload_n 2, 1) := by decide +kernel
theorem dL_law_1219 : decode cL_law 1219 = .ok (.invokevirtual 174, 3) := by decide +kernel
theorem dL_law_1222 : decode cL_law 1222 = .ok (.lcmp, 1) := by decide +kernel
theorem dL_law_1223 : decode cL_law 1223 = .ok (.ifCond .eq 220, 3) := by decide +kernel
theorem dL_law_1226 : decode cL_law 1226 = .ok (.iconst 0, 1) := by decide +kernel
theorem dL_law_1227 : decode cL_law 1227 = .ok (.ireturn, 1) := by decide +kernel
theorem dL_law_1228 : decode cL_law 1228 = .ok (.aload_n 1, 1) := by decide +kernel
theorem dL_law_1229 : decode cL_law 1229 = .ok (.invokevirtual 175, 3) := by decide +kernel
theorem dL_law_1232 : decode cL_law 1232 = .ok (.aload_n 2, 1) := by decide +kernel
theorem dL_law_1233 : decode cL_law 1233 = .ok (.invokevirtual 178, 3) := by decide +kernel
theorem dL_law_1236 : decode cL_law 1236 = .ok (.lcmp, 1) := by decide +kernel
theorem dL_law_1237 : decode cL_law 1237 = .ok (.ifCond .eq 206, 3) := by decide +kernel
theorem dL_law_1240 : decode cL_law 1240 = .ok (.iconst 0, 1) := by decide +kernel
theorem dL_law_1241 : decode cL_law 1241 = .ok (.ireturn, 1) := by decide +kernel
theorem dL_law_1242 : decode cL_law 1242 = .ok (.aload_n 1, 1) := by decide +kernel
theorem dL_law_1243 : decode cL_law 1243 = .ok (.aload_n 0, 1) := by decide +kernel
theorem dL_law_1244 : decode cL_law 1244 = .ok (.iload 5, 2) := by decide +kernel
theorem dL_law_1246 : decode cL_law 1246 = .ok (.iconst 1, 1) := by decide +kernel
theorem dL_law_1247 : decode cL_law 1247 = .ok (.iadd, 1) := by decide +kernel
theorem dL_law_1248 : decode cL_law 1248 = .ok (.iaload, 1) := by decide +kernel
theorem dL_law_1249 : decode cL_law 1249 = .ok (.aload_n 3, 1) := by decide +kernel
theorem dL_law_1250 : decode cL_law 1250 = .ok (.invokestatic 179, 3) := by decide +kernel
theorem dL_law_1253 : decode cL_law 1253 = .ok (.istore 6, 2) := by decide +kernel
theorem dL_law_1255 : decode cL_law 1255 = .ok (.aload_n 2, 1) := by decide +kernel
theorem dL_law_1256 : decode cL_law 1256 = .ok (.aload_n 0, 1) := by decide +kernel
theorem dL_law_1257 : decode cL_law 1257 = .ok (.iload 5, 2) := by decide +kernel
theorem dL_law_1259 : decode cL_law 1259 = .ok (.iconst 1, 1) := by decide +kernel
theorem dL_law_1260 : decode cL_law 1260 = .ok (.iadd, 1) := by decide +kernel
theorem dL_law_1261 : decode cL_law 1261 = .ok (.iaload, 1) := by decide +kernel
theorem dL_law_1262 : decode cL_law 1262 = .ok (.invokevirtual 181, 3) := by decide +kernel
theorem dL_law_1265 : decode cL_law 1265 = .ok (.istore 7, 2) := by decide +kernel
theorem dL_law_1267 : decode cL_law 1267 = .ok (.aload_n 2, 1) := by decide +kernel
theorem dL_law_1268 : decode cL_law 1268 = .ok (.invokevirtual 97, 3) := by decide +kernel
theorem dL_law_1271 : decode cL_law 1271 = .ok (.iload 6, 2) := by decide +kernel
theorem dL_law_1273 : decode cL_law 1273 = .ok (.if_icmp .eq 5, 3) := by decide +kernel
theorem dL_law_1276 : decode cL_law 1276 = .ok (.iconst 0, 1) := by decide +kernel
theorem dL_law_1277 : decode cL_law 1277 = .ok (.ireturn, 1) := by decide +kernel
theorem dL_law_1278 : decode cL_law 1278 = .ok (.iload 6, 2) := by decide +kernel
theorem dL_law_1280 : decode cL_law 1280 = .ok (.ifCond .ne 15, 3) := by decide +kernel
theorem dL_law_1283 : decode cL_law 1283 = .ok (.aload_n 3, 1) := by decide +kernel
theorem dL_law_1284 : decode cL_law 1284 = .ok (.iconst 0, 1) := by decide +kernel
theorem dL_law_1285 : decode cL_law 1285 = .ok (.laload, 1) := by decide +kernel
theorem dL_law_1286 : decode cL_law 1286 = .ok (.iload 7, 2) := by decide +kernel
theorem dL_law_1288 : decode cL_law 1288 = .ok (.i2l, 1) := by decide +kernel
theorem dL_law_1289 : decode cL_law 1289 = .ok (.lcmp, 1) := by decide +kernel
theorem dL_law_1290 : decode cL_law 1290 = .ok (.ifCond .eq 5, 3) := by decide +kernel
theorem dL_law_1293 : decode cL_law 1293 = .ok (.iconst 0, 1) := by decide +kernel
theorem dL_law_1294 : decode cL_law 1294 = .ok (.ireturn, 1) := by decide +kernel
theorem dL_law_1295 : decode cL_law 1295 = .ok (.goto 148, 3) := by decide +kernel
theorem dL_law_1298 : decode cL_law 1298 = .ok (.aload_n 1, 1) := by decide +kernel
theorem dL_law_1299 : decode cL_law 1299 = .ok (.invokevirtual 182, 3) := by decide +kernel
theorem dL_law_1302 : decode cL_law 1302 = .ok (.aload_n 2, 1) := by decide +kernel
theorem dL_law_1303 : decode cL_law 1303 = .ok (.invokevirtual 185, 3) := by decide +kernel
theorem dL_law_1306 : decode cL_law 1306 = .ok (.lcmp, 1) := by decide +kernel
theorem dL_law_1307 : decode cL_law 1307 = .ok (.ifCond .eq 136, 3) := by decide +kernel
theorem dL_law_1310 : decode cL_law 1310 = .ok (.iconst 0, 1) := by decide +kernel
theorem dL_law_1311 : decode cL_law 1311 = .ok (.ireturn, 1) := by decide +kernel
theorem dL_law_1312 : decode cL_law 1312 = .ok (.aload_n 1, 1) := by decide +kernel
theorem dL_law_1313 : decode cL_law 1313 = .ok (.aload 4, 2) := by decide +kernel
theorem dL_law_1315 : decode cL_law 1315 = .ok (.invokestatic 186, 3) := by decide +kernel
theorem dL_law_1318 : decode cL_law 1318 = .ok (.istore 6, 2) := by decide +kernel
theorem dL_law_1320 : decode cL_law 1320 = .ok (.aload_n 2, 1) := by decide +kernel
theorem dL_law_1321 : decode cL_law 1321 = .ok (.invokevirtual 189, 3) := by decide +kernel
theorem dL_law_1324 : decode cL_law 1324 = .ok (.fstore 7, 2) := by decide +kernel
theorem dL_law_1326 : decode cL_law 1326 = .ok (.aload_n 2, 1) := by decide +kernel
theorem dL_law_1327 : decode cL_law 1327 = .ok (.invokevirtual 97, 3) := by decide +kernel
theorem dL_law_1330 : decode cL_law 1330 = .ok (.iload 6, 2) := by decide +kernel
theorem dL_law_1332 : decode cL_law 1332 = .ok (.if_icmp .eq 5, 3) := by decide +kernel
theorem dL_law_1335 : decode cL_law 1335 = .ok (.iconst 0, 1) := by decide +kernel
theorem dL_law_1336 : decode cL_law 1336 = .ok (.ireturn, 1) := by decide +kernel
theorem dL_law_1337 : decode cL_law 1337 = .ok (.iload 6, 2) := by decide +kernel
theorem dL_law_1339 : decode cL_law 1339 = .ok (.ifCond .ne 36, 3) := by decide +kernel
theorem dL_law_1342 : decode cL_law 1342 = .ok (.aload 4, 2) := by decide +kernel
theorem dL_law_1344 : decode cL_law 1344 = .ok (.iconst 0, 1) := by decide +kernel
theorem dL_law_1345 : decode cL_law 1345 = .ok (.daload, 1) := by decide +kernel
theorem dL_law_1346 : decode cL_law 1346 = .ok (.fload 7, 2) := by decide +kernel
theorem dL_law_1348 : decode cL_law 1348 = .ok (.f2d, 1) := by decide +kernel
theorem dL_law_1349 : decode cL_law 1349 = .ok (.dcmp .l, 1) := by decide +kernel
theorem dL_law_1350 : decode cL_law 1350 = .ok (.ifCond .eq 25, 3) := by decide +kernel
theorem dL_law_1353 : decode cL_law 1353 = .ok (.aload 4, 2) := by decide +kernel
theorem dL_law_1355 : decode cL_law 1355 = .ok (.iconst 0, 1) := by decide +kernel
theorem dL_law_1356 : decode cL_law 1356 = .ok (.daload, 1) := by decide +kernel
theorem dL_law_1357 : decode cL_law 1357 = .ok (.aload 4, 2) := by decide +kernel
theorem dL_law_1359 : decode cL_law 1359 = .ok (.iconst 0, 1) := by decide +kernel
theorem dL_law_1360 : decode cL_law 1360 = .ok (.daload, 1) := by decide +kernel
theorem dL_law_1361 : decode cL_law 1361 = .ok (.dcmp .l, 1) := by decide +kernel
theorem dL_law_1362 : decode cL_law 1362 = .ok (.ifCond .eq 11, 3) := by decide +kernel
theorem dL_law_1365 : decode cL_law 1365 = .ok (.fload 7, 2) := by decide +kernel
theorem dL_law_1367 : decode cL_law 1367 = .ok (.fload 7, 2) := by decide +kernel
theorem dL_law_1369 : decode cL_law 1369 = .ok (.fcmp .l, 1) := by decide +kernel
theorem dL_law_1370 : decode cL_law 1370 = .ok (.ifCond .ne 5, 3) := by decide +kernel
theorem dL_law_1373 : decode cL_law 1373 = .ok (.iconst 0, 1) := by decide +kernel
theorem dL_law_1374 : decode cL_law 1374 = .ok (.ireturn, 1) := by decide +kernel
theorem dL_law_1375 : decode cL_law 1375 = .ok (.goto 68, 3) := by decide +kernel
theorem dL_law_1378 : decode cL_law 1378 = .ok (.aload_n 1, 1) := by decide +kernel
theorem dL_law_1379 : decode cL_law 1379 = .ok (.aload 4, 2) := by decide +kernel
theorem dL_law_1381 : decode cL_law 1381 = .ok (.invokestatic 190, 3) := by decide +kernel
theorem dL_law_1384 : decode cL_law 1384 = .ok (.istore 6, 2) := by decide +kernel
theorem dL_law_1386 : decode cL_law 1386 = .ok (.aload_n 2, 1) := by decide +kernel
theorem dL_law_1387 : decode cL_law 1387 = .ok (.invokevirtual 192, 3) := by decide +kernel
theorem dL_law_1390 : decode cL_law 1390 = .ok (.dstore 7, 2) := by decide +kernel
theorem dL_law_1392 : decode cL_law 1392 = .ok (.aload_n 2, 1) := by decide +kernel
theorem dL_law_1393 : decode cL_law 1393 = .ok (.invokevirtual 97, 3) := by decide +kernel
theorem dL_law_1396 : decode cL_law 1396 = .ok (.iload 6, 2) := by decide +kernel
theorem dL_law_1398 : decode cL_law 1398 = .ok (.if_icmp .eq 5, 3) := by decide +kernel
theorem dL_law_1401 : decode cL_law 1401 = .ok (.iconst 0, 1) := by decide +kernel
theorem dL_law_1402 : decode cL_law 1402 = .ok (.ireturn, 1) := by decide +kernel
theorem dL_law_1403 : decode cL_law 1403 = .ok (.iload 6, 2) := by decide +kernel
theorem dL_law_1405 : decode cL_law 1405 = .ok (.ifCond .ne 35, 3) := by decide +kernel
theorem dL_law_1408 : decode cL_law 1408 = .ok (.aload 4, 2) := by decide +kernel
theorem dL_law_1410 : decode cL_law 1410 = .ok (.iconst 0, 1) := by decide +kernel
theorem dL_law_1411 : decode cL_law 1411 = .ok (.daload, 1) := by decide +kernel
theorem dL_law_1412 : decode cL_law 1412 = .ok (.dload 7, 2) := by decide +kernel
theorem dL_law_1414 : decode cL_law 1414 = .ok (.dcmp .l, 1) := by decide +kernel
theorem dL_law_1415 : decode cL_law 1415 = .ok (.ifCond .eq 25, 3) := by decide +kernel
theorem dL_law_1418 : decode cL_law 1418 = .ok (.aload 4, 2) := by decide +kernel
theorem dL_law_1420 : decode cL_law 1420 = .ok (.iconst 0, 1) := by decide +kernel
theorem dL_law_1421 : decode cL_law 1421 = .ok (.daload, 1) := by decide +kernel
theorem dL_law_1422 : decode cL_law 1422 = .ok (.aload 4, 2) := by decide +kernel
theorem dL_law_1424 : decode cL_law 1424 = .ok (.iconst 0, 1) := by decide +kernel
theorem dL_law_1425 : decode cL_law 1425 = .ok (.daload, 1) := by decide +kernel
theorem dL_law_1426 : decode cL_law 1426 = .ok (.dcmp .l, 1) := by decide +kernel
theorem dL_law_1427 : decode cL_law 1427 = .ok (.ifCond .eq 11, 3) := by decide +kernel
theorem dL_law_1430 : decode cL_law 1430 = .ok (.dload 7, 2) := by decide +kernel
theorem dL_law_1432 : decode cL_law 1432 = .ok (.dload 7, 2) := by decide +kernel
theorem dL_law_1434 : decode cL_law 1434 = .ok (.dcmp .l, 1) := by decide +kernel
theorem dL_law_1435 : decode cL_law 1435 = .ok (.ifCond .ne 5, 3) := by decide +kernel
theorem dL_law_1438 : decode cL_law 1438 = .ok (.iconst 0, 1) := by decide +kernel
theorem dL_law_1439 : decode cL_law 1439 = .ok (.ireturn, 1) := by decide +kernel
theorem dL_law_1440 : decode cL_law 1440 = .ok (.goto 3, 3) := by decide +kernel
theorem dL_law_1443 : decode cL_law 1443 = .ok (.iinc 5 4, 3) := by decide +kernel
theorem dL_law_1446 : decode cL_law 1446 = .ok (.goto (-1418), 3) := by decide +kernel
theorem dL_law_1449 : decode cL_law 1449 = .ok (.iconst 1, 1) := by decide +kernel
theorem dL_law_1450 : decode cL_law 1450 = .ok (.ireturn, 1) := by decide +kernel
abbrev vwCl : List vw_C := [(RJ0, TJ0, 2), (RJx00060, TJx00060, 6), (RX0, TX0, 3), (RX1, TX1, 8), (RX2, TX2, 11), (RX3, TX3, 5), (RX4, TX4, 13), (RX5, TX5, 29)]
end
section
/-! plain facts on numbers and arrays, to paste: each family by itself; over the kit's rows on nI and upd -/
/-! ===== order of ints, in all its forms, and through longs ===== -/
theorem fa_lt (a b : Int32) : a < b ↔ a.toInt < b.toInt := Int32.lt_iff_toInt_lt
theorem fa_le (a b : Int32) : a ≤ b ↔ a.toInt ≤ b.toInt := Int32.le_iff_toInt_le
theorem fa_eq (a b : Int32) : a = b ↔ a.toInt = b.toInt := Int32.toInt_inj.symm
theorem fa_lt64 (a b : Int64) : a < b ↔ a.toInt < b.toInt := Int64.lt_iff_toInt_lt
theorem fa_le64 (a b : Int64) : a ≤ b ↔ a.toInt ≤ b.toInt := Int64.le_iff_toInt_le
theorem fa_eq64 (a b : Int64) : a = b ↔ a.toInt = b.toInt := Int64.toInt_inj.symm
/-- a comparison of two ints taken as longs -/
theorem fa_wide_lt (a b : Int32) : a.toInt64 < b.toInt64 ↔ a < b := by rw [fa_lt64, fa_lt, Int32.toInt_toInt64, Int32.toInt_toInt64]
theorem fa_wide_le (a b : Int32) : a.toInt64 ≤ b.toInt64 ↔ a ≤ b := by rw [fa_le64, fa_le, Int32.toInt_toInt64, Int32.toInt_toInt64]
theorem fa_wide_eq (a b : Int32) : a.toInt64 = b.toInt64 ↔ a = b := by rw [fa_eq64, fa_eq, Int32.toInt_toInt64, Int32.toInt_toInt64]
/-- one strict comparison gives all the others -/
theorem fa_of_lt {a b : Int32} (h : a < b) : a ≤ b ∧ ¬ b ≤ a ∧ ¬ b < a ∧ a ≠ b ∧ b ≠ a := by
  rw [fa_lt] at h
  refine ⟨?_, ?_, ?_, ?_, ?_⟩
  · rw [fa_le]; omega
  · rw [fa_le]; omega
  · rw [fa_lt]; omega
  · intro e; rw [fa_eq] at e; omega
  · intro e; rw [fa_eq] at e; omega
theorem fa_of_nlt {a b : Int32} (h : ¬ a < b) : b ≤ a := by
  rw [fa_lt] at h
  rw [fa_le]
  omega
theorem fa_of_nle {a b : Int32} (h : ¬ a ≤ b) : b < a := by
  rw [fa_le] at h
  rw [fa_lt]
  omega
theorem fa_le_ne {a b : Int32} (h : a ≤ b) (h2 : a ≠ b) : a < b := by
  rw [fa_le] at h
  rw [fa_lt]
  have h3 : a.toInt ≠ b.toInt := fun e => h2 ((fa_eq a b).mpr e)
  omega
theorem fa_three (a b : Int32) : a < b ∨ a = b ∨ b < a := by
  rw [fa_lt, fa_lt, fa_eq]
  omega
theorem fa_trans {a b c : Int32} (h : a < b) (h2 : b ≤ c) : a < c := by
  rw [fa_lt] at *
  rw [fa_le] at h2
  omega
/-! ===== small literals as numbers ===== -/
theorem fa_lit (n : Nat) : (OfNat.ofNat n : Int32) = nI n := rfl
theorem fa_litL (n : Nat) : (OfNat.ofNat n : Int64) = lN n := rfl
/-! ===== bits of a number: 'or', masks, one bit ===== -/
theorem fa_and (a b : Nat) : nI a &&& nI b = nI (a &&& b) := by
  apply Int32.toBitVec_inj.1
  show BitVec.ofNat 32 a &&& BitVec.ofNat 32 b = BitVec.ofNat 32 (a &&& b)
  apply BitVec.eq_of_getLsbD_eq
  intro i hi
  simp [hi]
theorem fa_or (a b : Nat) : nI a ||| nI b = nI (a ||| b) := by
  apply Int32.toBitVec_inj.1
  show BitVec.ofNat 32 a ||| BitVec.ofNat 32 b = BitVec.ofNat 32 (a ||| b)
  apply BitVec.eq_of_getLsbD_eq
  intro i hi
  simp [hi]
/-- a remainder by a power of two, as a mask -/
theorem fa_mask (n k : Nat) : nI n &&& nI (2 ^ k - 1) = nI (n % 2 ^ k) := by rw [fa_and, Nat.and_two_pow_sub_one_eq_mod]
/-- 'or' of a high part and a low one that don't meet is their sum -/
theorem fa_or_sum {a k : Nat} (b : Nat) (h : a < 2 ^ k) : nI (2 ^ k * b) ||| nI a = nI (2 ^ k * b + a) := by rw [fa_or, Nat.two_pow_add_eq_or_of_lt h]
/-- one bit, by 'and' with a power of two -/
theorem fa_bit {n j : Nat} (hj : j < 31) : nI n &&& nI (2 ^ j) = 0 ↔ n.testBit j = false := by
  have h2 : (2 : Nat) ^ j < 2 ^ 31 := Nat.pow_lt_pow_right (by decide) hj
  have hle : n &&& 2 ^ j ≤ 2 ^ j := Nat.and_le_right
  have e : n &&& 2 ^ j = 0 ↔ n.testBit j = false := by
    constructor
    · intro h
      have h1 : (n &&& 2 ^ j).testBit j = false := by rw [h]; simp
      rw [Nat.testBit_and] at h1
      first | simpa using h1 | simpa [Nat.testBit_two_pow_self] using h1 | simpa [Nat.testBit_two_pow] using h1
    · intro h
      apply Nat.eq_of_testBit_eq
      intro i
      rw [Nat.testBit_and]
      by_cases hi : j = i
      · subst hi; simp [h]
      · first | (simp [Nat.testBit_two_pow, hi]; done) | (simp [Nat.testBit_two_pow_of_ne hi]; done)
  rw [fa_and]
  constructor
  · intro h
    apply e.mp
    rcases Nat.eq_zero_or_pos (n &&& 2 ^ j) with z | z
    · exact z
    · exact absurd h (nI_ne0 z (Nat.lt_of_le_of_lt hle h2))
  · intro h
    rw [e.mpr h]; exact nI_0
/-- a remainder by a power of two of a number that isn't negative, as Java divides -/
theorem fa_rem {a k : Nat} (ha : a < 2 ^ 31) (hk : k < 31) : nI a - nI a / nI (2 ^ k) * nI (2 ^ k) = nI (a % 2 ^ k) := pk_rem ha (Nat.two_pow_pos k) (Nat.pow_lt_pow_right (by decide) hk)
/-! ===== cuts to a byte, a short ===== -/
theorem fa_byte_xor (x y : Int32) : (x ^^^ y).toInt8 = x.toInt8 ^^^ y.toInt8 := by
  apply Int8.toBitVec_inj.1
  apply BitVec.eq_of_getLsbD_eq
  intro i hi
  first | (simp [hi]; done) | (simp [hi, BitVec.getLsbD_setWidth, BitVec.getLsbD_signExtend]; done)
theorem fa_short_xor (x y : Int32) : (x ^^^ y).toInt16 = x.toInt16 ^^^ y.toInt16 := by
  apply Int16.toBitVec_inj.1
  apply BitVec.eq_of_getLsbD_eq
  intro i hi
  first | (simp [hi]; done) | (simp [hi, BitVec.getLsbD_setWidth, BitVec.getLsbD_signExtend]; done)
/-- the cut to a byte sees the low byte alone -/
theorem fa_byte_low (x : Int32) : (x &&& 255).toInt8 = x.toInt8 := by
  apply Int8.toBitVec_inj.1
  apply BitVec.eq_of_getLsbD_eq
  intro i hi
  have h2 : (255 : Int32).toBitVec.getLsbD i = true := by
    have : ∀ j : Fin 8, (255 : Int32).toBitVec.getLsbD j.val = true := by decide +kernel
    exact this ⟨i, hi⟩
  have h4 : (x &&& 255).toBitVec.getLsbD i = x.toBitVec.getLsbD i := by
    show (x.toBitVec &&& (255 : Int32).toBitVec).getLsbD i = _
    rw [BitVec.getLsbD_and, h2, Bool.and_true]
  have h3 : i < 32 := by omega
  first
    | (show (((x &&& 255).toBitVec).signExtend 8).getLsbD i = (x.toBitVec.signExtend 8).getLsbD i; rw [BitVec.getLsbD_signExtend, BitVec.getLsbD_signExtend, if_pos h3, if_pos h3, h4])
    | (show (((x &&& 255).toBitVec).setWidth 8).getLsbD i = (x.toBitVec.setWidth 8).getLsbD i; rw [BitVec.getLsbD_setWidth, BitVec.getLsbD_setWidth, h4])
    | (simp [hi, h3, h4]; done)
theorem fa_short_low (x : Int32) : (x &&& 65535).toInt16 = x.toInt16 := by
  apply Int16.toBitVec_inj.1
  apply BitVec.eq_of_getLsbD_eq
  intro i hi
  have h2 : (65535 : Int32).toBitVec.getLsbD i = true := by
    have : ∀ j : Fin 16, (65535 : Int32).toBitVec.getLsbD j.val = true := by decide +kernel
    exact this ⟨i, hi⟩
  have h4 : (x &&& 65535).toBitVec.getLsbD i = x.toBitVec.getLsbD i := by
    show (x.toBitVec &&& (65535 : Int32).toBitVec).getLsbD i = _
    rw [BitVec.getLsbD_and, h2, Bool.and_true]
  have h3 : i < 32 := by omega
  first
    | (show (((x &&& 65535).toBitVec).signExtend 16).getLsbD i = (x.toBitVec.signExtend 16).getLsbD i; rw [BitVec.getLsbD_signExtend, BitVec.getLsbD_signExtend, if_pos h3, if_pos h3, h4])
    | (show (((x &&& 65535).toBitVec).setWidth 16).getLsbD i = (x.toBitVec.setWidth 16).getLsbD i; rw [BitVec.getLsbD_setWidth, BitVec.getLsbD_setWidth, h4])
    | (simp [hi, h3, h4]; done)
/-- a small number is its own byte, its own short -/
theorem fa_byte_small {n : Nat} (h : n < 128) : (nI n).toInt8.toInt32 = nI n := by
  have : ∀ j : Fin 128, (nI j.val).toInt8.toInt32 = nI j.val := by decide +kernel
  exact this ⟨n, h⟩
/-! ===== absolute difference ===== -/
theorem fa_absdiff {a b : Nat} (ha : a < 2 ^ 31) (hb : b < 2 ^ 31) : (if nI a < nI b then nI b - nI a else nI a - nI b) = nI (if a < b then b - a else a - b) := by
  by_cases h : a < b
  · rw [if_pos (nI_lt h hb), if_pos h]
    exact pk_sub (Nat.le_of_lt h)
  · rw [if_neg (nI_nlt (Nat.le_of_not_lt h) ha), if_neg h]
    exact pk_sub (Nat.le_of_not_lt h)
/-! ===== an array behind i stores, a conditional store, a row copied ===== -/
/-- f where k < i, what stood there else -/
def fa_fill {α : Type} (f g : Nat → α) (i : Nat) : Nat → α := fun k => if k < i then f k else g k
theorem fa_fill_0 {α : Type} (f g : Nat → α) : fa_fill f g 0 = g := funext fun k => if_neg (Nat.not_lt_zero k)
theorem fa_fill_in {α : Type} {f g : Nat → α} {i k : Nat} (h : k < i) : fa_fill f g i k = f k := if_pos h
theorem fa_fill_out {α : Type} {f g : Nat → α} {i k : Nat} (h : i ≤ k) : fa_fill f g i k = g k := if_neg (Nat.not_lt.mpr h)
theorem fa_fill_succ (f g : Nat → Int32) (i : Nat) : upd (fa_fill f g i) i (f i) = fa_fill f g (i + 1) := by
  funext k
  by_cases e : k = i
  · subst e
    rw [pk_us]
    exact (if_pos (Nat.lt_succ_self k)).symm
  · rw [pk_un e]
    by_cases h : k < i
    · rw [fa_fill_in h, fa_fill_in (Nat.lt_succ_of_lt h)]
    · rw [fa_fill_out (Nat.le_of_not_lt h), fa_fill_out (by omega)]
/-- a store that changes nothing -/
theorem fa_upd_same {f : Nat → Int32} {i : Nat} {x : Int32} (h : f i = x) : upd f i x = f := by
  funext k
  by_cases e : k = i
  · subst e
    rw [pk_us, h]
  · rw [pk_un e]
/-- a store under a condition, told as one -/
theorem fa_upd_if (c : Prop) [Decidable c] (f : Nat → Int32) (i : Nat) (x : Int32) : (if c then upd f i x else f) = upd f i (if c then x else f i) := by
  by_cases h : c
  · rw [if_pos h, if_pos h]
  · rw [if_neg h, if_neg h, fa_upd_same rfl]
/-- two stores at one place, at two -/
theorem fa_upd_twice (f : Nat → Int32) (i : Nat) (x y : Int32) : upd (upd f i x) i y = upd f i y := by
  funext k
  by_cases e : k = i
  · subst e
    rw [pk_us, pk_us]
  · rw [pk_un e, pk_un e, pk_un e]
theorem fa_upd_swap (f : Nat → Int32) {i j : Nat} (h : i ≠ j) (x y : Int32) : upd (upd f i x) j y = upd (upd f j y) i x := by
  funext k
  by_cases e : k = i
  · subst e
    rw [pk_un h, pk_us, pk_us]
  · by_cases e2 : k = j
    · subst e2
      rw [pk_us, pk_un e, pk_us]
    · rw [pk_un e2, pk_un e, pk_un e, pk_un e2]
/-! ===== the first index with a property; a count ===== -/
/-- the first k < n with p k, n if there is none -/
def fa_first (p : Nat → Bool) : Nat → Nat
  | 0 => 0
  | n + 1 => if fa_first p n < n then fa_first p n else if p n then n else n + 1
theorem fa_first_le (p : Nat → Bool) : ∀ n, fa_first p n ≤ n
  | 0 => Nat.le_refl 0
  | n + 1 => by
    have ih := fa_first_le p n
    unfold fa_first
    split
    · omega
    · split
      · omega
      · omega
theorem fa_first_no (p : Nat → Bool) : ∀ n k, k < fa_first p n → p k = false
  | 0, k, h => absurd h (Nat.not_lt_zero k)
  | n + 1, k, h => by
    have ih := fa_first_no p n
    have hl := fa_first_le p n
    unfold fa_first at h
    split at h
    · exact ih k h
    · rename_i h1
      split at h
      · exact ih k (by omega)
      · rename_i h2
        by_cases e : k = n
        · subst e
          exact Bool.eq_false_iff.mpr h2
        · exact ih k (by omega)
theorem fa_first_yes (p : Nat → Bool) : ∀ n, fa_first p n < n → p (fa_first p n) = true
  | 0, h => absurd h (Nat.not_lt_zero _)
  | n + 1, h => by
    have ih := fa_first_yes p n
    have hl := fa_first_le p n
    unfold fa_first at h ⊢
    split at h
    · rename_i h1
      rw [if_pos h1]
      exact ih h1
    · rename_i h1
      rw [if_neg h1]
      split at h
      · rename_i h2
        rw [if_pos h2]
        exact h2
      · omega
/-- how many k < n have p k -/
def fa_cnt (p : Nat → Bool) : Nat → Nat
  | 0 => 0
  | n + 1 => fa_cnt p n + if p n then 1 else 0
theorem fa_cnt_le (p : Nat → Bool) : ∀ n, fa_cnt p n ≤ n
  | 0 => Nat.le_refl 0
  | n + 1 => by
    have ih := fa_cnt_le p n
    unfold fa_cnt
    split
    · omega
    · omega
theorem fa_cnt_yes {p : Nat → Bool} {n : Nat} (h : p n = true) : fa_cnt p (n + 1) = fa_cnt p n + 1 := by rw [fa_cnt, if_pos h]
theorem fa_cnt_no {p : Nat → Bool} {n : Nat} (h : p n = false) : fa_cnt p (n + 1) = fa_cnt p n := by rw [fa_cnt, if_neg (by rw [h]; decide)]; rfl
theorem fa_cnt_cong {p q : Nat → Bool} : ∀ {n : Nat}, (∀ k, k < n → p k = q k) → fa_cnt p n = fa_cnt q n
  | 0, _ => rfl
  | n + 1, h => by rw [fa_cnt, fa_cnt, fa_cnt_cong (fun k hk => h k (Nat.lt_succ_of_lt hk)), h n (Nat.lt_succ_self n)]
/-! ===== an answer carried into a post; a branch on a boolean answer ===== -/
theorem fa_post {α : Type} {P : α → Prop} {x y : α} (h : x = y) (hp : P y) : P x := h ▸ hp
theorem fa_post2 {α β : Type} {P : α → β → Prop} {x y : α} {u v : β} (h : x = y) (h2 : u = v) (hp : P y v) : P x u := h ▸ h2 ▸ hp
theorem fa_bool {r : Int32} {b : Bool} (h : r = if b then 1 else 0) : (r = 0 ↔ b = false) ∧ (¬ r = 0 ↔ b = true) := by
  subst h
  cases b
  · exact ⟨⟨fun _ => rfl, fun _ => rfl⟩, ⟨fun h => absurd rfl h, fun h => absurd h (by decide)⟩⟩
  · exact ⟨⟨fun h => absurd h (by decide), fun h => absurd h (by decide)⟩, ⟨fun _ => rfl, fun _ => by decide⟩⟩
/-- a boolean's narrowing changes nothing -/
theorem fa_bool_and {r : Int32} (h : r = 0 ∨ r = 1) : r &&& 1 = r := by
  rcases h with rfl | rfl
  · decide
  · decide
theorem fa_bool_prop {c : Prop} [Decidable c] {r : Int32} (h : r = if c then 1 else 0) : (r = 0 ↔ ¬ c) ∧ (¬ r = 0 ↔ c) := by
  subst h
  by_cases hc : c
  · rw [if_pos hc]
    exact ⟨⟨fun h => absurd h (by decide), fun h => absurd hc h⟩, ⟨fun _ => hc, fun _ => by decide⟩⟩
  · rw [if_neg hc]
    exact ⟨⟨fun _ => hc, fun _ => rfl⟩, ⟨fun h => absurd rfl h, fun h => absurd h hc⟩⟩
end
section
/-! plain facts to paste, each family by itself; over the kit's nI, lN and upd -/
/-! ===== drawers: more things than places ===== -/
theorem fb_holes : ∀ (m n : Nat) (f : Nat → Nat), (∀ i, i < n → f i < m) → (∀ i j, i < j → j < n → f i ≠ f j) → n ≤ m := by
  intro m
  induction m with
  | zero =>
    intro n f h1 _
    rcases Nat.eq_zero_or_pos n with h | h
    · omega
    · exact absurd (h1 0 h) (Nat.not_lt_zero _)
  | succ m ih =>
    intro n f h1 h2
    by_cases hx : ∃ i, i < n ∧ f i = m
    · obtain ⟨a, ha, hfa⟩ := hx
      have hg := ih (n - 1) (fun i => if i < a then f i else f (i + 1)) (by
        intro i hi
        by_cases q : i < a
        · simp only [if_pos q]
          have b1 := h1 i (by omega)
          have b2 := h2 i a q ha
          omega
        · simp only [if_neg q]
          have b1 := h1 (i + 1) (by omega)
          have b2 := h2 a (i + 1) (by omega) (by omega)
          omega) (by
        intro i j hij hj
        by_cases q : i < a
        · by_cases r : j < a
          · simp only [if_pos q, if_pos r]
            exact h2 i j hij (by omega)
          · simp only [if_pos q, if_neg r]
            exact h2 i (j + 1) (by omega) (by omega)
        · have r : ¬ j < a := by omega
          simp only [if_neg q, if_neg r]
          exact h2 (i + 1) (j + 1) (by omega) (by omega))
      omega
    · have hg := ih n f (fun i hi => by
        have b1 := h1 i hi
        have b2 : f i ≠ m := fun e => hx ⟨i, hi, e⟩
        omega) h2
      omega
/-- two of them in one place -/
theorem fb_twice {m n : Nat} {f : Nat → Nat} (h : ∀ i, i < n → f i < m) (hm : m < n) : ∃ i j, i < j ∧ j < n ∧ f i = f j := by
  refine Classical.byContradiction fun hx => ?_
  have := fb_holes m n f h (fun i j hij hj e => hx ⟨i, j, hij, hj, e⟩)
  omega
/-- as many as places, none twice: each place is taken -/
theorem fb_onto {n : Nat} {f : Nat → Nat} (h : ∀ i, i < n → f i < n) (h2 : ∀ i j, i < j → j < n → f i ≠ f j) {y : Nat} (hy : y < n) : ∃ i, i < n ∧ f i = y := by
  refine Classical.byContradiction fun hx => ?_
  have hne : ∀ i, i < n → f i ≠ y := fun i hi e => hx ⟨i, hi, e⟩
  have := fb_holes (n - 1) n (fun i => if f i < y then f i else f i - 1) (by
    intro i hi
    have b1 := h i hi
    have b2 := hne i hi
    by_cases q : f i < y
    · simp only [if_pos q]; omega
    · simp only [if_neg q]; omega) (by
    intro i j hij hj
    have b1 := hne i (by omega)
    have b2 := hne j hj
    have b3 := h2 i j hij hj
    by_cases q : f i < y
    · by_cases r : f j < y
      · simp only [if_pos q, if_pos r]; exact b3
      · simp only [if_pos q, if_neg r]; omega
    · by_cases r : f j < y
      · simp only [if_neg q, if_pos r]; omega
      · simp only [if_neg q, if_neg r]; omega)
  omega
/-! ===== how many places have a property ===== -/
def fb_ct (p : Nat → Bool) : Nat → Nat
  | 0 => 0
  | n + 1 => fb_ct p n + (if p n then 1 else 0)
theorem fb_ct_succ (p : Nat → Bool) (n : Nat) : fb_ct p (n + 1) = fb_ct p n + (if p n then 1 else 0) := rfl
theorem fb_ct_le (p : Nat → Bool) : ∀ n, fb_ct p n ≤ n
  | 0 => Nat.le_refl _
  | n + 1 => by
    have h := fb_ct_le p n
    rw [fb_ct_succ]
    split <;> omega
theorem fb_ct_step (p : Nat → Bool) (m : Nat) : ∀ n, fb_ct p m ≤ fb_ct p (m + n)
  | 0 => Nat.le_refl _
  | n + 1 => by
    have h := fb_ct_step p m n
    show fb_ct p m ≤ fb_ct p (m + n + 1)
    rw [fb_ct_succ]
    omega
theorem fb_ct_mono (p : Nat → Bool) {m n : Nat} (h : m ≤ n) : fb_ct p m ≤ fb_ct p n := by
  have := fb_ct_step p m (n - m)
  rwa [Nat.add_sub_cancel' h] at this
theorem fb_ct_cong {p q : Nat → Bool} : ∀ {n : Nat}, (∀ k, k < n → p k = q k) → fb_ct p n = fb_ct q n
  | 0, _ => rfl
  | n + 1, h => by
    rw [fb_ct_succ, fb_ct_succ, fb_ct_cong (fun k hk => h k (by omega)), h n (by omega)]
/-- one place changed -/
theorem fb_ct_out (p : Nat → Bool) (b : Bool) {i n : Nat} (h : n ≤ i) : fb_ct (fun k => if k = i then b else p k) n = fb_ct p n :=
  fb_ct_cong fun k hk => if_neg (by omega)
theorem fb_ct_upd (p : Nat → Bool) (b : Bool) {i : Nat} : ∀ {n : Nat}, i < n → fb_ct (fun k => if k = i then b else p k) n + (if p i then 1 else 0) = fb_ct p n + (if b then 1 else 0)
  | 0, h => absurd h (Nat.not_lt_zero i)
  | n + 1, h => by
    rw [fb_ct_succ, fb_ct_succ]
    rcases Nat.lt_or_ge i n with q | q
    · have := fb_ct_upd p b q
      have e : (if n = i then b else p n) = p n := if_neg (by omega)
      rw [e]
      omega
    · have e : i = n := by omega
      subst e
      rw [fb_ct_out p b (Nat.le_refl _)]
      simp only [if_true]
      omega
theorem fb_ct_sub {p q : Nat → Bool} : ∀ {n : Nat}, (∀ k, k < n → p k = true → q k = true) → fb_ct p n ≤ fb_ct q n
  | 0, _ => Nat.le_refl _
  | n + 1, h => by
    have h1 := fb_ct_sub (n := n) (p := p) (q := q) (fun k hk => h k (by omega))
    have h2 := h n (by omega)
    rw [fb_ct_succ, fb_ct_succ]
    cases hp : p n <;> cases hq : q n <;> simp_all <;> omega
theorem fb_ct_or {p q : Nat → Bool} : ∀ {n : Nat}, (∀ k, k < n → ¬ (p k = true ∧ q k = true)) → fb_ct (fun k => p k || q k) n = fb_ct p n + fb_ct q n
  | 0, _ => rfl
  | n + 1, h => by
    have h1 := fb_ct_or (n := n) (p := p) (q := q) (fun k hk => h k (by omega))
    have h2 := h n (by omega)
    rw [fb_ct_succ, fb_ct_succ, fb_ct_succ, h1]
    cases hp : p n <;> cases hq : q n <;> simp_all <;> omega
theorem fb_ct_not (p : Nat → Bool) : ∀ n, fb_ct p n + fb_ct (fun k => !p k) n = n
  | 0 => rfl
  | n + 1 => by
    have h := fb_ct_not p n
    rw [fb_ct_succ, fb_ct_succ]
    cases p n <;> simp <;> omega
theorem fb_ct_split (p : Nat → Bool) (m : Nat) : ∀ n, fb_ct p (m + n) = fb_ct p m + fb_ct (fun k => p (m + k)) n
  | 0 => rfl
  | n + 1 => by
    have h := fb_ct_split p m n
    show fb_ct p (m + n + 1) = _
    rw [fb_ct_succ, fb_ct_succ, h, Nat.add_assoc]
theorem fb_ct_zero {p : Nat → Bool} : ∀ {n : Nat}, fb_ct p n = 0 ↔ ∀ k, k < n → p k = false
  | 0 => ⟨fun _ k hk => absurd hk (Nat.not_lt_zero k), fun _ => rfl⟩
  | n + 1 => by
    have h := fb_ct_zero (p := p) (n := n)
    rw [fb_ct_succ]
    constructor
    · intro e k hk
      have e1 : fb_ct p n = 0 := by omega
      rcases Nat.lt_or_ge k n with q | q
      · exact h.mp e1 k q
      · have ek : k = n := by omega
        subst ek
        cases hp : p k
        · rfl
        · simp [hp] at e
    · intro a
      rw [h.mpr (fun k hk => a k (by omega)), a n (by omega)]
      rfl
theorem fb_ct_pos {p : Nat → Bool} {n : Nat} : 0 < fb_ct p n ↔ ∃ k, k < n ∧ p k = true := by
  constructor
  · intro h
    refine Classical.byContradiction fun hx => ?_
    have := fb_ct_zero.mpr (fun k hk => by
      cases hp : p k
      · rfl
      · exact absurd ⟨k, hk, hp⟩ hx : ∀ k, k < n → p k = false)
    omega
  · rintro ⟨k, hk, hp⟩
    rcases Nat.eq_zero_or_pos (fb_ct p n) with e | e
    · have := fb_ct_zero.mp e k hk
      rw [this] at hp
      cases hp
    · exact e
theorem fb_ct_all {p : Nat → Bool} {n : Nat} : fb_ct p n = n ↔ ∀ k, k < n → p k = true := by
  have h := fb_ct_not p n
  constructor
  · intro e k hk
    have z : fb_ct (fun k => !p k) n = 0 := by omega
    have := fb_ct_zero.mp z k hk
    cases hp : p k
    · simp [hp] at this
    · rfl
  · intro a
    have z : fb_ct (fun k => !p k) n = 0 := fb_ct_zero.mpr (fun k hk => by simp [a k hk])
    omega
/-- the k-th place with the property -/
theorem fb_ct_kth {p : Nat → Bool} {k : Nat} : ∀ {n : Nat}, k < fb_ct p n → ∃ i, i < n ∧ p i = true ∧ fb_ct p i = k
  | 0, h => absurd h (Nat.not_lt_zero k)
  | n + 1, h => by
    rcases Nat.lt_or_ge k (fb_ct p n) with q | q
    · obtain ⟨i, h1, h2⟩ := fb_ct_kth q
      exact ⟨i, by omega, h2⟩
    · rw [fb_ct_succ] at h
      cases hp : p n
      · simp [hp] at h; omega
      · simp [hp] at h
        exact ⟨n, by omega, hp, by omega⟩
theorem fb_ct_kth_one {p : Nat → Bool} {i j : Nat} (hi : p i = true) (hj : p j = true) (e : fb_ct p i = fb_ct p j) : i = j := by
  have key : ∀ a b : Nat, a < b → p a = true → fb_ct p a < fb_ct p b := by
    intro a b hab ha
    have h := fb_ct_mono p (show a + 1 ≤ b from hab)
    rw [fb_ct_succ, ha] at h
    simp at h
    omega
  rcases Nat.lt_trichotomy i j with q | q | q
  · have := key i j q hi; omega
  · exact q
  · have := key j i q hj; omega
/-! ===== sums over a range: one place changed, parts, bounds ===== -/
def fb_sm (f : Nat → Nat) : Nat → Nat
  | 0 => 0
  | n + 1 => fb_sm f n + f n
theorem fb_sm_succ (f : Nat → Nat) (n : Nat) : fb_sm f (n + 1) = fb_sm f n + f n := rfl
theorem fb_sm_cong {f g : Nat → Nat} : ∀ {n : Nat}, (∀ k, k < n → f k = g k) → fb_sm f n = fb_sm g n
  | 0, _ => rfl
  | n + 1, h => by rw [fb_sm_succ, fb_sm_succ, fb_sm_cong (fun k hk => h k (by omega)), h n (by omega)]
theorem fb_sm_out (f : Nat → Nat) (v : Nat) {i n : Nat} (h : n ≤ i) : fb_sm (fun k => if k = i then v else f k) n = fb_sm f n :=
  fb_sm_cong fun k hk => if_neg (by omega)
theorem fb_sm_upd (f : Nat → Nat) (v : Nat) {i : Nat} : ∀ {n : Nat}, i < n → fb_sm (fun k => if k = i then v else f k) n + f i = fb_sm f n + v
  | 0, h => absurd h (Nat.not_lt_zero i)
  | n + 1, h => by
    rw [fb_sm_succ, fb_sm_succ]
    rcases Nat.lt_or_ge i n with q | q
    · have := fb_sm_upd f v q
      have e : (if n = i then v else f n) = f n := if_neg (by omega)
      rw [e]
      omega
    · have e : i = n := by omega
      subst e
      rw [fb_sm_out f v (Nat.le_refl _)]
      simp only [if_true]
      omega
theorem fb_sm_add (f g : Nat → Nat) : ∀ n, fb_sm (fun k => f k + g k) n = fb_sm f n + fb_sm g n
  | 0 => rfl
  | n + 1 => by
    have h := fb_sm_add f g n
    rw [fb_sm_succ, fb_sm_succ, fb_sm_succ, h]
    omega
theorem fb_sm_le {f g : Nat → Nat} : ∀ {n : Nat}, (∀ k, k < n → f k ≤ g k) → fb_sm f n ≤ fb_sm g n
  | 0, _ => Nat.le_refl _
  | n + 1, h => by
    have h1 := fb_sm_le (n := n) (f := f) (g := g) (fun k hk => h k (by omega))
    have h2 := h n (by omega)
    rw [fb_sm_succ, fb_sm_succ]
    omega
theorem fb_sm_const (c : Nat) : ∀ n, fb_sm (fun _ => c) n = n * c
  | 0 => by rw [Nat.zero_mul]; rfl
  | n + 1 => by rw [fb_sm_succ, fb_sm_const c n, Nat.succ_mul]
theorem fb_sm_bound {f : Nat → Nat} {c n : Nat} (h : ∀ k, k < n → f k ≤ c) : fb_sm f n ≤ n * c := by
  rw [← fb_sm_const c n]
  exact fb_sm_le h
theorem fb_sm_mono (f : Nat → Nat) (m : Nat) : ∀ n, fb_sm f m ≤ fb_sm f (m + n)
  | 0 => Nat.le_refl _
  | n + 1 => by
    have h := fb_sm_mono f m n
    show fb_sm f m ≤ fb_sm f (m + n + 1)
    rw [fb_sm_succ]
    omega
theorem fb_sm_part (f : Nat → Nat) {i n : Nat} (h : i < n) : fb_sm f i + f i ≤ fb_sm f n := by
  have := fb_sm_mono f (i + 1) (n - (i + 1))
  rw [fb_sm_succ, show i + 1 + (n - (i + 1)) = n by omega] at this
  exact this
theorem fb_sm_split (f : Nat → Nat) (m : Nat) : ∀ n, fb_sm f (m + n) = fb_sm f m + fb_sm (fun k => f (m + k)) n
  | 0 => rfl
  | n + 1 => by
    have h := fb_sm_split f m n
    show fb_sm f (m + n + 1) = _
    rw [fb_sm_succ, fb_sm_succ, h, Nat.add_assoc]
theorem fb_sm_zero {f : Nat → Nat} {n : Nat} (h : fb_sm f n = 0) : ∀ k, k < n → f k = 0 := fun k hk => by
  have := fb_sm_part f hk
  omega
/-- the same over whole numbers -/
def fb_si (f : Nat → Int) : Nat → Int
  | 0 => 0
  | n + 1 => fb_si f n + f n
theorem fb_si_succ (f : Nat → Int) (n : Nat) : fb_si f (n + 1) = fb_si f n + f n := rfl
theorem fb_si_cong {f g : Nat → Int} : ∀ {n : Nat}, (∀ k, k < n → f k = g k) → fb_si f n = fb_si g n
  | 0, _ => rfl
  | n + 1, h => by rw [fb_si_succ, fb_si_succ, fb_si_cong (fun k hk => h k (by omega)), h n (by omega)]
theorem fb_si_out (f : Nat → Int) (v : Int) {i n : Nat} (h : n ≤ i) : fb_si (fun k => if k = i then v else f k) n = fb_si f n :=
  fb_si_cong fun k hk => if_neg (by omega)
theorem fb_si_upd (f : Nat → Int) (v : Int) {i : Nat} : ∀ {n : Nat}, i < n → fb_si (fun k => if k = i then v else f k) n = fb_si f n - f i + v
  | 0, h => absurd h (Nat.not_lt_zero i)
  | n + 1, h => by
    rw [fb_si_succ, fb_si_succ]
    rcases Nat.lt_or_ge i n with q | q
    · have := fb_si_upd f v q
      have e : (if n = i then v else f n) = f n := if_neg (by omega)
      rw [e]
      omega
    · have e : i = n := by omega
      subst e
      rw [fb_si_out f v (Nat.le_refl _)]
      simp only [if_true]
      omega
theorem fb_si_add (f g : Nat → Int) : ∀ n, fb_si (fun k => f k + g k) n = fb_si f n + fb_si g n
  | 0 => rfl
  | n + 1 => by
    have h := fb_si_add f g n
    rw [fb_si_succ, fb_si_succ, fb_si_succ, h]
    omega
theorem fb_si_sub (f g : Nat → Int) : ∀ n, fb_si (fun k => f k - g k) n = fb_si f n - fb_si g n
  | 0 => rfl
  | n + 1 => by
    have h := fb_si_sub f g n
    rw [fb_si_succ, fb_si_succ, fb_si_succ, h]
    omega
theorem fb_si_mul (c : Int) (f : Nat → Int) : ∀ n, fb_si (fun k => c * f k) n = c * fb_si f n
  | 0 => (Int.mul_zero c).symm
  | n + 1 => by
    have h := fb_si_mul c f n
    rw [fb_si_succ, fb_si_succ, h, Int.mul_add]
theorem fb_si_split (f : Nat → Int) (m : Nat) : ∀ n, fb_si f (m + n) = fb_si f m + fb_si (fun k => f (m + k)) n
  | 0 => (Int.add_zero _).symm
  | n + 1 => by
    have h := fb_si_split f m n
    show fb_si f (m + n + 1) = _
    rw [fb_si_succ, fb_si_succ, h, Int.add_assoc]
theorem fb_si_nat (f : Nat → Nat) : ∀ n, fb_si (fun k => (f k : Int)) n = (fb_sm f n : Int)
  | 0 => rfl
  | n + 1 => by
    have h := fb_si_nat f n
    rw [fb_si_succ, fb_sm_succ, h]
    omega
theorem fb_si_bound {f : Nat → Int} {c : Int} (hc : 0 ≤ c) : ∀ {n : Nat}, (∀ k, k < n → -c ≤ f k ∧ f k ≤ c) → -(n * c) ≤ fb_si f n ∧ fb_si f n ≤ n * c
  | 0, _ => by simp [fb_si]
  | n + 1, h => by
    have h1 := fb_si_bound (n := n) (f := f) hc (fun k hk => h k (by omega))
    have h2 := h n (by omega)
    have e : ((n + 1 : Nat) : Int) * c = n * c + c := by rw [Int.natCast_add, Int.add_mul]; simp
    rw [fb_si_succ, e]
    omega
/-! ===== bits of a long that isn't negative ===== -/
theorem fb_andL (a b : Nat) : lN a &&& lN b = lN (a &&& b) := by
  apply Int64.toBitVec_inj.1
  show BitVec.ofNat 64 a &&& BitVec.ofNat 64 b = BitVec.ofNat 64 (a &&& b)
  apply BitVec.eq_of_getLsbD_eq
  intro i hi
  simp [hi]
theorem fb_orL (a b : Nat) : lN a ||| lN b = lN (a ||| b) := by
  apply Int64.toBitVec_inj.1
  show BitVec.ofNat 64 a ||| BitVec.ofNat 64 b = BitVec.ofNat 64 (a ||| b)
  apply BitVec.eq_of_getLsbD_eq
  intro i hi
  simp [hi]
theorem fb_xorL (a b : Nat) : lN a ^^^ lN b = lN (a ^^^ b) := by
  apply Int64.toBitVec_inj.1
  show BitVec.ofNat 64 a ^^^ BitVec.ofNat 64 b = BitVec.ofNat 64 (a ^^^ b)
  apply BitVec.eq_of_getLsbD_eq
  intro i hi
  simp [hi]
theorem fb_xorI (a b : Nat) : nI a ^^^ nI b = nI (a ^^^ b) := by
  apply Int32.toBitVec_inj.1
  show BitVec.ofNat 32 a ^^^ BitVec.ofNat 32 b = BitVec.ofNat 32 (a ^^^ b)
  apply BitVec.eq_of_getLsbD_eq
  intro i hi
  simp [hi]
theorem fb_maskL (n k : Nat) : lN n &&& lN (2 ^ k - 1) = lN (n % 2 ^ k) := by rw [fb_andL, Nat.and_two_pow_sub_one_eq_mod]
theorem fb_or_sumL {a k : Nat} (b : Nat) (h : a < 2 ^ k) : lN (2 ^ k * b) ||| lN a = lN (2 ^ k * b + a) := by rw [fb_orL, Nat.two_pow_add_eq_or_of_lt h]
theorem fb_lN_inj {a b : Nat} (ha : a < 2 ^ 63) (hb : b < 2 ^ 63) : lN a = lN b ↔ a = b := by
  constructor
  · intro h
    have h1 : (BitVec.ofNat 64 a).toNat = (BitVec.ofNat 64 b).toNat := congrArg (fun x : Int64 => x.toBitVec.toNat) h
    rw [BitVec.toNat_ofNat, BitVec.toNat_ofNat, Nat.mod_eq_of_lt (by omega), Nat.mod_eq_of_lt (by omega)] at h1
    exact h1
  · rintro rfl; rfl
theorem fb_bit_nat (n j : Nat) : n &&& 2 ^ j = 0 ↔ n.testBit j = false := by
  constructor
  · intro h
    have h1 : (n &&& 2 ^ j).testBit j = false := by rw [h]; simp
    rw [Nat.testBit_and] at h1
    simpa using h1
  · intro h
    apply Nat.eq_of_testBit_eq
    intro i
    rw [Nat.testBit_and]
    by_cases hi : j = i
    · subst hi; simp [h]
    · first | (simp [Nat.testBit_two_pow, hi]; done) | (simp [Nat.testBit_two_pow_of_ne hi]; done)
/-- one bit of a long -/
theorem fb_bitL {n j : Nat} (hj : j < 63) : lN n &&& lN (2 ^ j) = 0 ↔ n.testBit j = false := by
  have h2 : (2 : Nat) ^ j < 2 ^ 63 := Nat.pow_lt_pow_right (by decide) hj
  have hle : n &&& 2 ^ j ≤ 2 ^ j := Nat.and_le_right
  rw [fb_andL, ← fb_bit_nat, show (0 : Int64) = lN 0 from rfl]
  exact fb_lN_inj (by omega) (by decide)
/-- a bit set, a bit taken off -/
theorem fb_bit_set (n j i : Nat) : (n ||| 2 ^ j).testBit i = (n.testBit i || decide (i = j)) := by
  rw [Nat.testBit_or]
  by_cases h : j = i
  · subst h; simp
  · have h2 : ¬ i = j := fun e => h e.symm
    first | (simp [Nat.testBit_two_pow, h, h2]; done) | (simp [Nat.testBit_two_pow_of_ne h, h2]; done)
theorem fb_bit_flip (n j i : Nat) : (n ^^^ 2 ^ j).testBit i = (n.testBit i ^^ decide (i = j)) := by
  rw [Nat.testBit_xor]
  by_cases h : j = i
  · subst h; simp
  · have h2 : ¬ i = j := fun e => h e.symm
    first | (simp [Nat.testBit_two_pow, h, h2]; done) | (simp [Nat.testBit_two_pow_of_ne h, h2]; done)
/-! ===== a stretch of an array written over by a function ===== -/
def fb_put {α : Type} (f g : Nat → α) (a n : Nat) : Nat → α := fun k => if a ≤ k ∧ k < a + n then g (k - a) else f k
theorem fb_put_0 {α : Type} (f g : Nat → α) (a : Nat) : fb_put f g a 0 = f := funext fun k => if_neg (by omega)
theorem fb_put_in {α : Type} {f g : Nat → α} {a n k : Nat} (h1 : a ≤ k) (h2 : k < a + n) : fb_put f g a n k = g (k - a) := if_pos ⟨h1, h2⟩
theorem fb_put_out {α : Type} {f g : Nat → α} {a n k : Nat} (h : k < a ∨ a + n ≤ k) : fb_put f g a n k = f k := if_neg (by omega)
theorem fb_put_succ (f g : Nat → Int32) (a n : Nat) : upd (fb_put f g a n) (a + n) (g n) = fb_put f g a (n + 1) := by
  funext k
  by_cases h : k = a + n
  · subst h
    simp [upd, fb_put]
  · by_cases h1 : a ≤ k ∧ k < a + n
    · have h2 : a ≤ k ∧ k < a + (n + 1) := by omega
      simp only [upd, fb_put, if_neg h, if_pos h1, if_pos h2]
    · have h2 : ¬ (a ≤ k ∧ k < a + (n + 1)) := by omega
      simp only [upd, fb_put, if_neg h, if_neg h1, if_neg h2]
/-- .. from the far end down -/
theorem fb_put_down (f g : Nat → Int32) {a n m : Nat} (h : m < n) : upd (fb_put f (fun k => g (k + (m + 1))) (a + (m + 1)) (n - (m + 1))) (a + m) (g m) = fb_put f (fun k => g (k + m)) (a + m) (n - m) := by
  funext k
  by_cases h0 : k = a + m
  · subst h0
    simp only [upd, if_true]
    rw [fb_put_in (by omega) (by omega)]
    exact congrArg g (by omega)
  · simp only [upd, if_neg h0]
    by_cases h1 : a + (m + 1) ≤ k ∧ k < a + (m + 1) + (n - (m + 1))
    · rw [fb_put_in h1.1 h1.2, fb_put_in (by omega) (by omega)]
      exact congrArg g (by omega)
    · rw [fb_put_out (by omega), fb_put_out (by omega)]
theorem fb_put_cong {α : Type} {f f2 g g2 : Nat → α} {a n : Nat} (hf : ∀ k, (k < a ∨ a + n ≤ k) → f k = f2 k) (hg : ∀ k, k < n → g k = g2 k) : fb_put f g a n = fb_put f2 g2 a n := by
  funext k
  by_cases h : a ≤ k ∧ k < a + n
  · rw [fb_put_in h.1 h.2, fb_put_in h.1 h.2, hg _ (by omega)]
  · rw [fb_put_out (by omega), fb_put_out (by omega), hf _ (by omega)]
/-! ===== the least, the first, the best so far; that there is one alone ===== -/
theorem fb_first {p : Nat → Prop} [DecidablePred p] : ∀ {n : Nat}, (∃ i, i < n ∧ p i) → ∃ i, i < n ∧ p i ∧ ∀ j, j < i → ¬ p j
  | 0, h => by obtain ⟨i, hi, -⟩ := h; exact absurd hi (Nat.not_lt_zero i)
  | n + 1, h => by
    by_cases q : ∃ i, i < n ∧ p i
    · obtain ⟨i, h1, h2⟩ := fb_first q
      exact ⟨i, by omega, h2⟩
    · obtain ⟨i, h1, h2⟩ := h
      have e : i = n := by
        rcases Nat.lt_or_ge i n with r | r
        · exact absurd ⟨i, r, h2⟩ q
        · omega
      subst e
      exact ⟨i, by omega, h2, fun j hj hp => q ⟨j, hj, hp⟩⟩
theorem fb_first_one {p : Nat → Prop} {i j : Nat} (hi : p i) (hi2 : ∀ k, k < i → ¬ p k) (hj : p j) (hj2 : ∀ k, k < j → ¬ p k) : i = j := by
  rcases Nat.lt_trichotomy i j with q | q | q
  · exact absurd hi (hj2 i q)
  · exact q
  · exact absurd hj (hi2 j q)
theorem fb_last {p : Nat → Prop} [DecidablePred p] : ∀ {n : Nat}, (∃ i, i < n ∧ p i) → ∃ i, i < n ∧ p i ∧ ∀ j, i < j → j < n → ¬ p j
  | 0, h => by obtain ⟨i, hi, -⟩ := h; exact absurd hi (Nat.not_lt_zero i)
  | n + 1, h => by
    by_cases q : p n
    · exact ⟨n, by omega, q, fun j h1 h2 => by omega⟩
    · obtain ⟨i, h1, h2⟩ := h
      have hi : i < n := by
        rcases Nat.lt_or_ge i n with r | r
        · exact r
        · have e : i = n := by omega
          subst e
          exact absurd h2 q
      obtain ⟨i2, a1, a2, a3⟩ := fb_last (n := n) ⟨i, hi, h2⟩
      refine ⟨i2, by omega, a2, fun j b1 b2 => ?_⟩
      rcases Nat.lt_or_ge j n with r | r
      · exact a3 j b1 r
      · have e : j = n := by omega
        subst e
        exact q
/-- the first greatest -/
theorem fb_best (f : Nat → Int) : ∀ {n : Nat}, 0 < n → ∃ i, i < n ∧ (∀ j, j < n → f j ≤ f i) ∧ ∀ j, j < i → f j < f i
  | 0, h => absurd h (Nat.lt_irrefl 0)
  | 1, _ => ⟨0, by omega, fun j hj => by have e : j = 0 := by omega
                                         subst e; exact Int.le_refl _, fun j hj => absurd hj (Nat.not_lt_zero j)⟩
  | n + 2, _ => by
    obtain ⟨i, h1, h2, h3⟩ := fb_best f (n := n + 1) (by omega)
    by_cases q : f i < f (n + 1)
    · refine ⟨n + 1, by omega, fun j hj => ?_, fun j hj => ?_⟩
      · rcases Nat.lt_or_ge j (n + 1) with r | r
        · have := h2 j r; omega
        · have e : j = n + 1 := by omega
          subst e; exact Int.le_refl _
      · have := h2 j hj; omega
    · refine ⟨i, by omega, fun j hj => ?_, h3⟩
      rcases Nat.lt_or_ge j (n + 1) with r | r
      · exact h2 j r
      · have e : j = n + 1 := by omega
        subst e; omega
theorem fb_best_one {f : Nat → Int} {n i j : Nat} (hi : i < n) (hi2 : ∀ k, k < n → f k ≤ f i) (hi3 : ∀ k, k < i → f k < f i) (hj : j < n) (hj2 : ∀ k, k < n → f k ≤ f j) (hj3 : ∀ k, k < j → f k < f j) : i = j := by
  rcases Nat.lt_trichotomy i j with q | q | q
  · have a := hj3 i q
    have b := hi2 j hj
    omega
  · exact q
  · have a := hi3 j q
    have b := hj2 i hi
    omega
/-- the first least -/
theorem fb_low (f : Nat → Int) {n : Nat} (h : 0 < n) : ∃ i, i < n ∧ (∀ j, j < n → f i ≤ f j) ∧ ∀ j, j < i → f i < f j := by
  obtain ⟨i, h1, h2, h3⟩ := fb_best (fun k => -f k) h
  exact ⟨i, h1, fun j hj => by have := h2 j hj; omega, fun j hj => by have := h3 j hj; omega⟩
/-! ===== signed ints as whole numbers, within bounds ===== -/
theorem fb_rng (x : Int32) : -2147483648 ≤ x.toInt ∧ x.toInt < 2147483648 := by
  have h1 := Int32.le_toInt x
  have h2 := Int32.toInt_lt x
  omega
theorem fb_bmod {z : Int} (h1 : -2147483648 ≤ z) (h2 : z < 2147483648) : z.bmod (2 ^ 32) = z := by
  rw [Int.bmod_eq_of_le (by omega) (by omega)]
theorem fb_addI {x y : Int32} (h1 : -2147483648 ≤ x.toInt + y.toInt) (h2 : x.toInt + y.toInt < 2147483648) : (x + y).toInt = x.toInt + y.toInt := by
  rw [Int32.toInt_add, fb_bmod h1 h2]
theorem fb_subI {x y : Int32} (h1 : -2147483648 ≤ x.toInt - y.toInt) (h2 : x.toInt - y.toInt < 2147483648) : (x - y).toInt = x.toInt - y.toInt := by
  rw [Int32.toInt_sub, fb_bmod h1 h2]
theorem fb_mulI {x y : Int32} (h1 : -2147483648 ≤ x.toInt * y.toInt) (h2 : x.toInt * y.toInt < 2147483648) : (x * y).toInt = x.toInt * y.toInt := by
  rw [Int32.toInt_mul, fb_bmod h1 h2]
theorem fb_negI {x : Int32} (h : x.toInt ≠ -2147483648) : (-x).toInt = -x.toInt := by
  have := fb_rng x
  rw [Int32.toInt_neg, fb_bmod (by omega) (by omega)]
theorem fb_ofI {z : Int} (h1 : -2147483648 ≤ z) (h2 : z < 2147483648) : (Int32.ofInt z).toInt = z := by
  rw [Int32.toInt_ofInt, fb_bmod h1 h2]
theorem fb_asI (x : Int32) : Int32.ofInt x.toInt = x := Int32.ofInt_toInt x
theorem fb_rngL (x : Int64) : -9223372036854775808 ≤ x.toInt ∧ x.toInt < 9223372036854775808 := by
  have h1 := Int64.le_toInt x
  have h2 := Int64.toInt_lt x
  omega
theorem fb_bmodL {z : Int} (h1 : -9223372036854775808 ≤ z) (h2 : z < 9223372036854775808) : z.bmod (2 ^ 64) = z := by
  rw [Int.bmod_eq_of_le (by omega) (by omega)]
theorem fb_addL {x y : Int64} (h1 : -9223372036854775808 ≤ x.toInt + y.toInt) (h2 : x.toInt + y.toInt < 9223372036854775808) : (x + y).toInt = x.toInt + y.toInt := by
  rw [Int64.toInt_add, fb_bmodL h1 h2]
theorem fb_subL {x y : Int64} (h1 : -9223372036854775808 ≤ x.toInt - y.toInt) (h2 : x.toInt - y.toInt < 9223372036854775808) : (x - y).toInt = x.toInt - y.toInt := by
  rw [Int64.toInt_sub, fb_bmodL h1 h2]
theorem fb_mulL {x y : Int64} (h1 : -9223372036854775808 ≤ x.toInt * y.toInt) (h2 : x.toInt * y.toInt < 9223372036854775808) : (x * y).toInt = x.toInt * y.toInt := by
  rw [Int64.toInt_mul, fb_bmodL h1 h2]
/-! ===== cuts of what is narrow already ===== -/
theorem fb_byte {x : Int32} (h1 : -128 ≤ x.toInt) (h2 : x.toInt < 128) : x.toInt8.toInt32 = x := by
  apply Int32.toInt_inj.1
  rw [Int8.toInt_toInt32, Int32.toInt_toInt8, Int.bmod_eq_of_le (by omega) (by omega)]
theorem fb_short {x : Int32} (h1 : -32768 ≤ x.toInt) (h2 : x.toInt < 32768) : x.toInt16.toInt32 = x := by
  apply Int32.toInt_inj.1
  rw [Int16.toInt_toInt32, Int32.toInt_toInt16, Int.bmod_eq_of_le (by omega) (by omega)]
theorem fb_byte_rng (x : Int32) : -128 ≤ x.toInt8.toInt32.toInt ∧ x.toInt8.toInt32.toInt < 128 := by
  rw [Int8.toInt_toInt32]
  have h1 := Int8.le_toInt x.toInt8
  have h2 := Int8.toInt_lt x.toInt8
  omega
theorem fb_short_rng (x : Int32) : -32768 ≤ x.toInt16.toInt32.toInt ∧ x.toInt16.toInt32.toInt < 32768 := by
  rw [Int16.toInt_toInt32]
  have h1 := Int16.le_toInt x.toInt16
  have h2 := Int16.toInt_lt x.toInt16
  omega
theorem fb_byte_twice (x : Int32) : x.toInt8.toInt32.toInt8.toInt32 = x.toInt8.toInt32 := fb_byte (fb_byte_rng x).1 (fb_byte_rng x).2
theorem fb_short_twice (x : Int32) : x.toInt16.toInt32.toInt16.toInt32 = x.toInt16.toInt32 := fb_short (fb_short_rng x).1 (fb_short_rng x).2
theorem fb_char {n : Nat} (h : n < 65536) : (nI n).toUInt32.toUInt16.toUInt32.toInt32 = nI n := by
  apply Int32.toBitVec_inj.1
  apply BitVec.eq_of_toNat_eq
  have e1 : (nI n).toBitVec.toNat = n := by
    show (BitVec.ofNat 32 n).toNat = n
    rw [BitVec.toNat_ofNat, Nat.mod_eq_of_lt (by omega)]
  have e2 : ((nI n).toUInt32.toUInt16.toUInt32).toNat = n := by
    rw [UInt16.toNat_toUInt32, UInt32.toNat_toUInt16]
    show (nI n).toBitVec.toNat % 2 ^ 16 = n
    rw [e1, Nat.mod_eq_of_lt (by omega)]
  rw [e1]
  exact e2
end
section
section KQ
variable {p : Program} {l : Launch} {e : Env} {R : Room} {s : State} {m : MethodId} {args : Array Value} {below : List Frame} {meth : Method} {c : Code} {H : Heap} {locs : List Loc} {cells slots : Nat} {Q : State → Prop} {cc : ByteArray} {pc : Nat} {ls : Array Slot} {rest : List Value} {D : va_G} {ty : List (ClassId × FieldType)} {A : Nat → Prop} {ws : va_W} {a : Nat}
/-- the world at a point: the cells, apart, nothing else written, the classes known, what is new is free -/
def kW (D : va_G) (ty : List (ClassId × FieldType)) (s : State) (A : Nat → Prop) (ws : va_W) (H : Heap) (locs : List Loc) : Prop :=
  va_P D vwCl ws H ∧ va_D A ws ∧ va_S A s.heap H locs ∧ va_K D vwCl ty s ∧ ∀ q : Nat, s.heap.size ≤ q → A q
theorem kW.pick {ws' : va_W} (h : kW D ty s A ws H locs) (is : List Nat) (hn : va_nd is = true) (hs : is.map (fun i => ws[i]?) = ws'.map some) : kW D ty s A ws' H locs := by
  obtain ⟨hP, hD, hS, hK, hA⟩ := h
  refine ⟨hP.sub is ?_, hD.sub is hn hs, hS, hK, hA⟩
  have h1 : is.filterMap (fun i => ws[i]?) = (is.map (fun i => ws[i]?)).filterMap id := by
    rw [List.filterMap_map]; rfl
  rw [h1, hs, List.filterMap_map]
  exact List.filterMap_some
abbrev kty (cI cC cJ cG : ClassId) : List (ClassId × FieldType) := [(cI, .int), (cC, .char), (cJ, .long), (cG, .double)]
/-- a loop: an invariant over a state of any kind, a measure that falls -/
theorem k_loop {σ : Type} {nL : Nat} {W' : Heap → List Loc → Array Slot → Prop} (I : σ → Prop) (mu : σ → Nat) (w : σ → va_W) (lv : σ → List (Nat × Value)) (x0 : σ) (h0 : I x0)
    (step : ∀ x : σ, I x → (∀ (x' : σ) (H : Heap) (locs : List Loc) (ls : Array Slot), I x' → mu x' < mu x → kW D ty s A (w x') H locs → lv_has ls nL (lv x') → W' H locs ls) → ∀ (H : Heap) (locs : List Loc) (ls : Array Slot), kW D ty s A (w x) H locs → lv_has ls nL (lv x) → W' H locs ls) :
    ∀ (H : Heap) (locs : List Loc) (ls : Array Slot), kW D ty s A (w x0) H locs → lv_has ls nL (lv x0) → W' H locs ls := by
  have K : ∀ (n : Nat) (x : σ), mu x < n → I x → ∀ (H : Heap) (locs : List Loc) (ls : Array Slot), kW D ty s A (w x) H locs → lv_has ls nL (lv x) → W' H locs ls := by
    intro n
    induction n with
    | zero => intro x h; exact absurd h (Nat.not_lt_zero _)
    | succ n ih =>
      intro x hn hI
      exact step x hI (fun x' H locs ls hI' hm hw hl => ih x' (by omega) hI' H locs ls hw hl)
  exact K (mu x0 + 1) x0 (Nat.lt_succ_self _) h0
/-- a contract's start -/
def kPc (D : va_G) (ty : List (ClassId × FieldType)) (As : List Value) (ws : va_W) (sz : Nat) : Array Value → State → Prop :=
  va_Pc As (fun U => U.heap.size = sz ∧ va_P D vwCl ws U.heap ∧ va_K D vwCl ty U ∧ va_D (fun _ => True) ws)
/-- the world behind a method -/
def kB {S : Type} (D : va_G) (ty : List (ClassId × FieldType)) (ws : va_W) (sz : Nat) (w : S → va_W) : S → State → Prop :=
  fun u t => va_P D vwCl (w u) t.heap ∧ va_K D vwCl ty t ∧ va_D (va_A ws sz) (w u)
def kMi {S : Type} (l : Launch) (y : MethodName) (wm : List Cond) (rm : Room) (D : va_G) (ty : List (ClassId × FieldType)) (As : List Value) (ws : va_W) (sz mc ms : Nat) (post : Int32 → S → Prop) (w : S → va_W) : Prop :=
  Met l y wm rm (kPc D ty As ws sz) (va_Qi post (kB D ty ws sz w) (va_A ws sz)) mc ms (va_A ws sz)
def kMl {S : Type} (l : Launch) (y : MethodName) (wm : List Cond) (rm : Room) (D : va_G) (ty : List (ClassId × FieldType)) (As : List Value) (ws : va_W) (sz mc ms : Nat) (post : Int64 → S → Prop) (w : S → va_W) : Prop :=
  Met l y wm rm (kPc D ty As ws sz) (va_Ql post (kB D ty ws sz w) (va_A ws sz)) mc ms (va_A ws sz)
def kMf {S : Type} (l : Launch) (y : MethodName) (wm : List Cond) (rm : Room) (D : va_G) (ty : List (ClassId × FieldType)) (As : List Value) (ws : va_W) (sz mc ms : Nat) (post : UInt32 → S → Prop) (w : S → va_W) : Prop :=
  Met l y wm rm (kPc D ty As ws sz) (va_Qf post (kB D ty ws sz w) (va_A ws sz)) mc ms (va_A ws sz)
def kMd {S : Type} (l : Launch) (y : MethodName) (wm : List Cond) (rm : Room) (D : va_G) (ty : List (ClassId × FieldType)) (As : List Value) (ws : va_W) (sz mc ms : Nat) (post : UInt64 → S → Prop) (w : S → va_W) : Prop :=
  Met l y wm rm (kPc D ty As ws sz) (va_Qd post (kB D ty ws sz w) (va_A ws sz)) mc ms (va_A ws sz)
def kMv {S : Type} (l : Launch) (y : MethodName) (wm : List Cond) (rm : Room) (D : va_G) (ty : List (ClassId × FieldType)) (As : List Value) (ws : va_W) (sz mc ms : Nat) (post : S → Prop) (w : S → va_W) : Prop :=
  Met l y wm rm (kPc D ty As ws sz) (va_Qv post (kB D ty ws sz w) (va_A ws sz)) mc ms (va_A ws sz)
theorem kPc_blind {As : List Value} {sz : Nat} : FrameBlind (kPc D ty As ws sz) := by
  intro a U g mk q
  obtain ⟨q0, q1, qP, qK, qD⟩ := q
  exact ⟨q0, q1, qP, va_K.moved (u := U) (U := U.calling g mk a) (Vm.Alike.refl U.vm) qK, qD⟩
/-- what holds at a method's entry -/
def kE (p : Program) (s : State) (m : MethodId) (args : Array Value) (meth : Method) (c : Code) (own : String) (cc : ByteArray) (maxL : Nat) (ret : Option FieldType) (wm : List Cond) : Prop :=
  p.tables.exec = Jvm.exec ∧ c.code = cc ∧ meth.sig.returnType = ret ∧ c.maxLocals = maxL ∧ s.vm.findClass own = some m.cls ∧ (∀ w ∈ wm, w.before args s = true) ∧ meth.locks = false
theorem k_ofW {y : MethodName} {wm wm' : List Cond} {rm : Room} {As : List Value} {sz : Nat} {Qc : Array Value → State → Outcome → State → Prop} {mc ms : Nat} {free : Addr → Prop} {maxL : Nat} {ret : Option FieldType} {lv : List (Nat × Value)}
    (hy : plainName y.cls = true) (hwm : wm = Cond.code y cc maxL ret :: wm') (hn : (lg_sl As).length ≤ maxL) (hlv : lv_args 0 As = lv)
    (body : ∀ (p : Program) (e : Env) (s : State) (m : MethodId) (args : Array Value) (below : List Frame) (meth : Method) (c : Code) (ls : Array Slot) (H : Heap) (locs : List Loc), kE p s m args meth c y.cls cc maxL ret wm → sz = s.heap.size → kW D ty s (va_A ws s.heap.size) ws H locs → lv_has ls maxL lv →
      W p l e rm s m args below meth c H locs 0 0 (MQ below Qc args s mc ms free) (F0 m 0 ls [])) : Met l y wm rm (kPc D ty As ws sz) Qc mc ms free := by
  refine Met.ofW (cc := cc) (maxL := maxL) (ret := ret) hy hwm ?_
  intro p e s m args below meth c s₁ B hml hv
  obtain ⟨rfl, hsz, hP, hK, hD0⟩ := hv
  have hD := hD0.self (sz := s.heap.size)
  have hl := lv_entry As (n := maxL) hn
  rw [lg_entry_eq]
  rw [hlv] at hl
  exact body p e s m _ below meth c _ s.heap [] ⟨B.exec, B.bytes, B.returns, hml, findClass_of_methodNamed B.named, atoms_spec (ws := wm) B.pre, B.notSynchronized⟩ hsz.symm ⟨hP, hD, va_S.rf, hK, fun q h => Or.inr h⟩ hl
/-! the ends -/
theorem k_iret {S : Type} {post : Int32 → S → Prop} {w : S → va_W} {ws0 : va_W} {v : Int32} (u : S) (hx : p.tables.exec = Jvm.exec) (hb : c.code = cc) (hr : meth.sig.returnType = some .int) (hlocks : meth.locks = false)
    (hw : kW D ty s (va_A ws0 s.heap.size) (w u) H locs) (hpost : post v u) (hdg : decode cc pc = .ok (.ireturn, 1)) :
    W p l e R s m args below meth c H locs cells slots (MQ below (va_Qi post (kB D ty ws0 s.heap.size w) (va_A ws0 s.heap.size)) args s cells slots (va_A ws0 s.heap.size)) (F0 m pc ls [.int v]) := by
  obtain ⟨hP, hD, hS, hK, -⟩ := hw
  exact W.iret (v := v) hx hb hr (fun t ht hW => ⟨⟨v, u, rfl, hpost, by rw [ht]; exact hP, va_K.moved hW.alike hK, hD⟩, hS.F ht⟩) hS.2.2 hdg hlocks
theorem k_zret {S : Type} {post : Int32 → S → Prop} {w : S → va_W} {ws0 : va_W} {v : Int32} {rt : FieldType} (u : S) (hx : p.tables.exec = Jvm.exec) (hb : c.code = cc) (hr : meth.sig.returnType = some rt) (hn : narrow rt (.int v) = .int v) (hlocks : meth.locks = false)
    (hw : kW D ty s (va_A ws0 s.heap.size) (w u) H locs) (hpost : post v u) (hdg : decode cc pc = .ok (.ireturn, 1)) :
    W p l e R s m args below meth c H locs cells slots (MQ below (va_Qi post (kB D ty ws0 s.heap.size w) (va_A ws0 s.heap.size)) args s cells slots (va_A ws0 s.heap.size)) (F0 m pc ls [.int v]) := by
  obtain ⟨hP, hD, hS, hK, -⟩ := hw
  exact W.zret (v := v) hx hb hr hn (fun t ht hW => ⟨⟨v, u, rfl, hpost, by rw [ht]; exact hP, va_K.moved hW.alike hK, hD⟩, hS.F ht⟩) hS.2.2 hdg hlocks
theorem k_lret {S : Type} {post : Int64 → S → Prop} {w : S → va_W} {ws0 : va_W} {v : Int64} (u : S) (hx : p.tables.exec = Jvm.exec) (hb : c.code = cc) (hr : meth.sig.returnType = some .long) (hlocks : meth.locks = false)
    (hw : kW D ty s (va_A ws0 s.heap.size) (w u) H locs) (hpost : post v u) (hdg : decode cc pc = .ok (.lreturn, 1)) :
    W p l e R s m args below meth c H locs cells slots (MQ below (va_Ql post (kB D ty ws0 s.heap.size w) (va_A ws0 s.heap.size)) args s cells slots (va_A ws0 s.heap.size)) (F0 m pc ls [.long v]) := by
  obtain ⟨hP, hD, hS, hK, -⟩ := hw
  exact W.lret (v := v) hx hb hr (fun t ht hW => ⟨⟨v, u, rfl, hpost, by rw [ht]; exact hP, va_K.moved hW.alike hK, hD⟩, hS.F ht⟩) hS.2.2 hdg hlocks
theorem k_fret {S : Type} {post : UInt32 → S → Prop} {w : S → va_W} {ws0 : va_W} {v : UInt32} (u : S) (hx : p.tables.exec = Jvm.exec) (hb : c.code = cc) (hr : meth.sig.returnType = some .float) (hlocks : meth.locks = false)
    (hw : kW D ty s (va_A ws0 s.heap.size) (w u) H locs) (hpost : post v u) (hdg : decode cc pc = .ok (.freturn, 1)) :
    W p l e R s m args below meth c H locs cells slots (MQ below (va_Qf post (kB D ty ws0 s.heap.size w) (va_A ws0 s.heap.size)) args s cells slots (va_A ws0 s.heap.size)) (F0 m pc ls [.float v]) := by
  obtain ⟨hP, hD, hS, hK, -⟩ := hw
  exact W.fret (v := v) hx hb hr (fun t ht hW => ⟨⟨v, u, rfl, hpost, by rw [ht]; exact hP, va_K.moved hW.alike hK, hD⟩, hS.F ht⟩) hS.2.2 hdg
theorem k_dret {S : Type} {post : UInt64 → S → Prop} {w : S → va_W} {ws0 : va_W} {v : UInt64} (u : S) (hx : p.tables.exec = Jvm.exec) (hb : c.code = cc) (hr : meth.sig.returnType = some .double) (hlocks : meth.locks = false)
    (hw : kW D ty s (va_A ws0 s.heap.size) (w u) H locs) (hpost : post v u) (hdg : decode cc pc = .ok (.dreturn, 1)) :
    W p l e R s m args below meth c H locs cells slots (MQ below (va_Qd post (kB D ty ws0 s.heap.size w) (va_A ws0 s.heap.size)) args s cells slots (va_A ws0 s.heap.size)) (F0 m pc ls [.double v]) := by
  obtain ⟨hP, hD, hS, hK, -⟩ := hw
  exact W.dret (v := v) hx hb hr (fun t ht hW => ⟨⟨v, u, rfl, hpost, by rw [ht]; exact hP, va_K.moved hW.alike hK, hD⟩, hS.F ht⟩) hS.2.2 hdg
theorem k_vret {S : Type} {post : S → Prop} {w : S → va_W} {ws0 : va_W} (u : S) (hx : p.tables.exec = Jvm.exec) (hb : c.code = cc) (hr : meth.sig.returnType = none) (hlocks : meth.locks = false)
    (hw : kW D ty s (va_A ws0 s.heap.size) (w u) H locs) (hpost : post u) (hdg : decode cc pc = .ok (.return_, 1)) :
    W p l e R s m args below meth c H locs cells slots (MQ below (va_Qv post (kB D ty ws0 s.heap.size w) (va_A ws0 s.heap.size)) args s cells slots (va_A ws0 s.heap.size)) (F0 m pc ls []) := by
  obtain ⟨hP, hD, hS, hK, -⟩ := hw
  exact W.vret hx hb hr (fun t ht hW => ⟨⟨u, rfl, hpost, by rw [ht]; exact hP, va_K.moved hW.alike hK, hD⟩, hS.F ht⟩) hS.2.2 hdg hlocks
/-! fields and arrays -/
theorem k_get {own C : String} {T : u_T} {N ci index : Nat} {Ts : List Cond} (hx : p.tables.exec = Jvm.exec) (hb : c.code = cc) (hts : ∀ w ∈ Ts, w.before args s = true) (hin : ∀ w ∈ u_ws C T N, w ∈ Ts) (hown : s.vm.findClass own = some m.cls) (hw : kW D ty s A ws H locs) (q0 k : Nat) {fs : List Value} {v : Value} (he : ws[q0]? = some (a, .inr (ci, fs))) (hc : vwCl[ci]? = some (C, T, N)) (hk : k < N) (hlink : (Cond.fieldLink own index (T k).1 (T k).2.1 (T k).2.2.1).before args s = true) (hv : fs[k]? = some v) (hdg : decode cc pc = .ok (.getfield index, 3))
    (kk : W p l e R s m args below meth c H locs cells slots Q (F0 m (pc + 3) ls (v :: rest))) : W p l e R s m args below meth c H locs cells slots Q (F0 m pc ls (.ref a :: rest)) :=
  va_get hx hb hts hin hown hw.2.2.2.1 hw.1 q0 he hc k hk hlink (fun _ h => h) hv hdg kk
theorem k_put {own C : String} {T : u_T} {N ci index : Nat} {Ts : List Cond} {ws' : va_W} (hx : p.tables.exec = Jvm.exec) (hb : c.code = cc) (hts : ∀ w ∈ Ts, w.before args s = true) (hin : ∀ w ∈ u_ws C T N, w ∈ Ts) {ty0 : Nat → FieldType} (hty : ∀ k, k < N → parseFieldDescriptor (T k).2.2.1 = some (ty0 k)) (hnm : ∀ a, a < N → ∀ b, b < N → a ≠ b → (T a).2.1 ≠ (T b).2.1) (hown : s.vm.findClass own = some m.cls) (hw : kW D ty s A ws H locs) (q0 k : Nat) {fs : List Value} {v : Value} (he : ws[q0]? = some (a, .inr (ci, fs))) (hc : vwCl[ci]? = some (C, T, N)) (hk : k < N) (hlink : (Cond.fieldLink own index (T k).1 (T k).2.1 (T k).2.2.1).before args s = true) (hfin : (T k).2.2.2 = false) (hn : narrow (ty0 k) v = v) (hfit : fits (ty0 k) v = true) (hl : k < fs.length) (hws : ws.set q0 (a, .inr (ci, fs.set k v)) = ws') (hdg : decode cc pc = .ok (.putfield index, 3))
    (kk : ∀ (H1 : Heap) (locs1 : List Loc), kW D ty s A ws' H1 locs1 → W p l e R s m args below meth c H1 locs1 cells slots Q (F0 m (pc + 3) ls rest)) : W p l e R s m args below meth c H locs cells slots Q (F0 m pc ls (v :: .ref a :: rest)) := by
  subst hws
  exact va_put hx hb hts hin ty0 hty hnm hown hw.2.2.2.1 hw.1 hw.2.1 hw.2.2.1 q0 he hc k hk hlink (fun _ h => h) hfin (hty k hk) hn hfit hl hdg (fun H1 locs1 h1 h2 h3 => kk H1 locs1 ⟨h1, h2, h3, hw.2.2.2⟩)
theorem k_putF {own C : String} {T : u_T} {N ci index : Nat} {Ts : List Cond} {ws' : va_W} (hx : p.tables.exec = Jvm.exec) (hb : c.code = cc) (hts : ∀ w ∈ Ts, w.before args s = true) (hin : ∀ w ∈ u_ws C T N, w ∈ Ts) {ty0 : Nat → FieldType} (hty : ∀ k, k < N → parseFieldDescriptor (T k).2.2.1 = some (ty0 k)) (hnm : ∀ a, a < N → ∀ b, b < N → a ≠ b → (T a).2.1 ≠ (T b).2.1) (hown : s.vm.findClass own = some m.cls) (hw : kW D ty s A ws H locs) (q0 k : Nat) {fs : List Value} {v : Value} (he : ws[q0]? = some (a, .inr (ci, fs))) (hc : vwCl[ci]? = some (C, T, N)) (hk : k < N) (hlink : (Cond.fieldLink own index (T k).1 (T k).2.1 (T k).2.2.1).before args s = true) (hfin : (T k).2.2.2 = true) (hin2 : meth.name = "<init>") (hdecl : (T k).1 = own) (hn : narrow (ty0 k) v = v) (hfit : fits (ty0 k) v = true) (hl : k < fs.length) (hws : ws.set q0 (a, .inr (ci, fs.set k v)) = ws') (hdg : decode cc pc = .ok (.putfield index, 3))
    (kk : ∀ (H1 : Heap) (locs1 : List Loc), kW D ty s A ws' H1 locs1 → W p l e R s m args below meth c H1 locs1 cells slots Q (F0 m (pc + 3) ls rest)) : W p l e R s m args below meth c H locs cells slots Q (F0 m pc ls (v :: .ref a :: rest)) := by
  subst hws
  exact va_putF hx hb hts hin ty0 hty hnm hown hw.2.2.2.1 hw.1 hw.2.1 hw.2.2.1 q0 he hc k hk hlink (fun _ h => h) hfin hin2 hdecl (hty k hk) hn hfit hl hdg (fun H1 locs1 h1 h2 h3 => kk H1 locs1 ⟨h1, h2, h3, hw.2.2.2⟩)
theorem k_in {i : Int32} {j n : Nat} (hi : i = nI j) (hj : j < n) (hn : n < 2 ^ 31) : vp_in i n ∧ i.toNatClampNeg = j := by
  subst hi
  exact ⟨vp_in_nI hj hn, nI_clamp (by omega)⟩
theorem k_iald (hx : p.tables.exec = Jvm.exec) (hb : c.code = cc) (hw : kW D ty s A ws H locs) (q0 t0 : Nat) {cA : ClassId} {n : Nat} {f : Nat → Int32} (ha : ws[q0]? = some (a, .inl (cA, n, .inl f))) (ht : ty[t0]? = some (cA, .int)) {i : Int32} (j : Nat) (hi : i = nI j) (hj : j < n) (hn : n < 2 ^ 31) (hdg : decode cc pc = .ok (.iaload, 1))
    (kk : W p l e R s m args below meth c H locs cells slots Q (F0 m (pc + 1) ls (.int (f j) :: rest))) : W p l e R s m args below meth c H locs cells slots Q (F0 m pc ls (.int i :: .ref a :: rest)) := by
  obtain ⟨h1, h2⟩ := k_in hi hj hn
  exact va_iald hx hb hw.2.2.2.1 hw.1 q0 t0 ha ht h1 hdg (by rw [h2]; exact kk)
theorem k_cald (hx : p.tables.exec = Jvm.exec) (hb : c.code = cc) (hw : kW D ty s A ws H locs) (q0 t0 : Nat) {cA : ClassId} {n : Nat} {f : Nat → Int32} (ha : ws[q0]? = some (a, .inl (cA, n, .inl f))) (ht : ty[t0]? = some (cA, .char)) {i : Int32} (j : Nat) (hi : i = nI j) (hj : j < n) (hn : n < 2 ^ 31) (hdg : decode cc pc = .ok (.caload, 1))
    (kk : W p l e R s m args below meth c H locs cells slots Q (F0 m (pc + 1) ls (.int (f j) :: rest))) : W p l e R s m args below meth c H locs cells slots Q (F0 m pc ls (.int i :: .ref a :: rest)) := by
  obtain ⟨h1, h2⟩ := k_in hi hj hn
  exact va_cald hx hb hw.2.2.2.1 hw.1 q0 t0 ha ht h1 hdg (by rw [h2]; exact kk)
theorem k_lald (hx : p.tables.exec = Jvm.exec) (hb : c.code = cc) (hw : kW D ty s A ws H locs) (q0 t0 : Nat) {cA : ClassId} {n : Nat} {f : Nat → Int64} (ha : ws[q0]? = some (a, .inl (cA, n, .inr (.inl f)))) (ht : ty[t0]? = some (cA, .long)) {i : Int32} (j : Nat) (hi : i = nI j) (hj : j < n) (hn : n < 2 ^ 31) (hdg : decode cc pc = .ok (.laload, 1))
    (kk : W p l e R s m args below meth c H locs cells slots Q (F0 m (pc + 1) ls (.long (f j) :: rest))) : W p l e R s m args below meth c H locs cells slots Q (F0 m pc ls (.int i :: .ref a :: rest)) := by
  obtain ⟨h1, h2⟩ := k_in hi hj hn
  exact va_lald hx hb hw.2.2.2.1 hw.1 q0 t0 ha ht h1 hdg (by rw [h2]; exact kk)
theorem k_dald (hx : p.tables.exec = Jvm.exec) (hb : c.code = cc) (hw : kW D ty s A ws H locs) (q0 t0 : Nat) {cA : ClassId} {n : Nat} {f : Nat → UInt64} (ha : ws[q0]? = some (a, .inl (cA, n, .inr (.inr (.inr (.inl f)))))) (ht : ty[t0]? = some (cA, .double)) {i : Int32} (j : Nat) (hi : i = nI j) (hj : j < n) (hn : n < 2 ^ 31) (hdg : decode cc pc = .ok (.daload, 1))
    (kk : W p l e R s m args below meth c H locs cells slots Q (F0 m (pc + 1) ls (.double (f j) :: rest))) : W p l e R s m args below meth c H locs cells slots Q (F0 m pc ls (.int i :: .ref a :: rest)) := by
  obtain ⟨h1, h2⟩ := k_in hi hj hn
  exact va_dald hx hb hw.2.2.2.1 hw.1 q0 t0 ha ht h1 hdg (by rw [h2]; exact kk)
theorem k_iast {ws' : va_W} (hx : p.tables.exec = Jvm.exec) (hb : c.code = cc) (hw : kW D ty s A ws H locs) (q0 t0 : Nat) {cA : ClassId} {n : Nat} {f : Nat → Int32} (ha : ws[q0]? = some (a, .inl (cA, n, .inl f))) (ht : ty[t0]? = some (cA, .int)) {i x : Int32} (j : Nat) (hi : i = nI j) (hj : j < n) (hn : n < 2 ^ 31) (hws : ws.set q0 (a, .inl (cA, n, .inl (upd f j x))) = ws') (hdg : decode cc pc = .ok (.iastore, 1))
    (kk : ∀ (H1 : Heap) (locs1 : List Loc), kW D ty s A ws' H1 locs1 → W p l e R s m args below meth c H1 locs1 cells slots Q (F0 m (pc + 1) ls rest)) : W p l e R s m args below meth c H locs cells slots Q (F0 m pc ls (.int x :: .int i :: .ref a :: rest)) := by
  obtain ⟨h1, h2⟩ := k_in hi hj hn
  subst hws
  exact va_iast hx hb hw.2.2.2.1 hw.1 hw.2.1 hw.2.2.1 q0 t0 ha ht h1 hdg (fun H1 locs1 g1 g2 g3 => kk H1 locs1 (by rw [h2] at g1 g2; exact ⟨g1, g2, g3, hw.2.2.2⟩))
theorem k_cast {ws' : va_W} (hx : p.tables.exec = Jvm.exec) (hb : c.code = cc) (hw : kW D ty s A ws H locs) (q0 t0 : Nat) {cA : ClassId} {n : Nat} {f : Nat → Int32} (ha : ws[q0]? = some (a, .inl (cA, n, .inl f))) (ht : ty[t0]? = some (cA, .char)) {i x : Int32} (j : Nat) (hi : i = nI j) (hj : j < n) (hn : n < 2 ^ 31) (hx2 : vp_nar .char x = x) (hws : ws.set q0 (a, .inl (cA, n, .inl (upd f j x))) = ws') (hdg : decode cc pc = .ok (.castore, 1))
    (kk : ∀ (H1 : Heap) (locs1 : List Loc), kW D ty s A ws' H1 locs1 → W p l e R s m args below meth c H1 locs1 cells slots Q (F0 m (pc + 1) ls rest)) : W p l e R s m args below meth c H locs cells slots Q (F0 m pc ls (.int x :: .int i :: .ref a :: rest)) := by
  obtain ⟨h1, h2⟩ := k_in hi hj hn
  subst hws
  exact va_cast hx hb hw.2.2.2.1 hw.1 hw.2.1 hw.2.2.1 q0 t0 ha ht h1 hdg (fun H1 locs1 g1 g2 g3 => kk H1 locs1 (by rw [h2, hx2] at g1 g2; exact ⟨g1, g2, g3, hw.2.2.2⟩))
theorem k_last {ws' : va_W} (hx : p.tables.exec = Jvm.exec) (hb : c.code = cc) (hw : kW D ty s A ws H locs) (q0 t0 : Nat) {cA : ClassId} {n : Nat} {f : Nat → Int64} (ha : ws[q0]? = some (a, .inl (cA, n, .inr (.inl f)))) (ht : ty[t0]? = some (cA, .long)) {i : Int32} {x : Int64} (j : Nat) (hi : i = nI j) (hj : j < n) (hn : n < 2 ^ 31) (hws : ws.set q0 (a, .inl (cA, n, .inr (.inl (vp_updL f j x)))) = ws') (hdg : decode cc pc = .ok (.lastore, 1))
    (kk : ∀ (H1 : Heap) (locs1 : List Loc), kW D ty s A ws' H1 locs1 → W p l e R s m args below meth c H1 locs1 cells slots Q (F0 m (pc + 1) ls rest)) : W p l e R s m args below meth c H locs cells slots Q (F0 m pc ls (.long x :: .int i :: .ref a :: rest)) := by
  obtain ⟨h1, h2⟩ := k_in hi hj hn
  subst hws
  exact va_last hx hb hw.2.2.2.1 hw.1 hw.2.1 hw.2.2.1 q0 t0 ha ht h1 hdg (fun H1 locs1 g1 g2 g3 => kk H1 locs1 (by rw [h2] at g1 g2; exact ⟨g1, g2, g3, hw.2.2.2⟩))
theorem k_dast {ws' : va_W} (hx : p.tables.exec = Jvm.exec) (hb : c.code = cc) (hw : kW D ty s A ws H locs) (q0 t0 : Nat) {cA : ClassId} {n : Nat} {f : Nat → UInt64} (ha : ws[q0]? = some (a, .inl (cA, n, .inr (.inr (.inr (.inl f)))))) (ht : ty[t0]? = some (cA, .double)) {i : Int32} {x : UInt64} (j : Nat) (hi : i = nI j) (hj : j < n) (hn : n < 2 ^ 31) (hws : ws.set q0 (a, .inl (cA, n, .inr (.inr (.inr (.inl (vf_upd f j x)))))) = ws') (hdg : decode cc pc = .ok (.dastore, 1))
    (kk : ∀ (H1 : Heap) (locs1 : List Loc), kW D ty s A ws' H1 locs1 → W p l e R s m args below meth c H1 locs1 cells slots Q (F0 m (pc + 1) ls rest)) : W p l e R s m args below meth c H locs cells slots Q (F0 m pc ls (.double x :: .int i :: .ref a :: rest)) := by
  obtain ⟨h1, h2⟩ := k_in hi hj hn
  subst hws
  exact va_dast hx hb hw.2.2.2.1 hw.1 hw.2.1 hw.2.2.1 q0 t0 ha ht h1 hdg (fun H1 locs1 g1 g2 g3 => kk H1 locs1 (by rw [h2] at g1 g2; exact ⟨g1, g2, g3, hw.2.2.2⟩))
/-! calls: the callee's cells are wc, at the places isC; the others wr, at isR; behind the call the world is wr and the callee's -/
theorem k_ans {S : Type} {wc wr : va_W} {w : S → va_W} {u : S} {t : State} {H1 : Heap} {locs1 : List Loc} (hw : kW D ty s A ws H locs) (isC isR : List Nat) (hC : isC.map (fun i => ws[i]?) = wc.map some) (hR : isR.map (fun i => ws[i]?) = wr.map some) (hn : va_nd isR = true) (hdis : ∀ i ∈ isR, i ∉ isC)
    (ht : t.heap = H1) (hB : kB D ty wc H.size w u t) (hk1 : ∀ q : Nat, q < H.size → ¬ va_A wc H.size q → H1[q]? = H[q]?) (hS1 : va_S A s.heap H1 locs1) : kW D ty s A (wr ++ w u) H1 locs1 := by
  obtain ⟨hP, hD, hS, hK, hA⟩ := hw
  obtain ⟨hP1, -, hD1⟩ := hB
  rw [ht] at hP1
  obtain ⟨h1, h2⟩ := va_join hP hD isC isR hC hR hn hdis hk1 (va_free hD hS hA isC hC) hP1 hD1
  exact ⟨h1, h2, hS1, hK, hA⟩
theorem k_pre {As : List Value} {wc : va_W} (hw : kW D ty s A ws H locs) (isC : List Nat) (hndC : va_nd isC = true) (hC : isC.map (fun i => ws[i]?) = wc.map some) : PreS s H (kPc D ty As wc H.size) As := by
  obtain ⟨hP, hD, hS, hK, hA⟩ := kW.pick hw isC hndC hC
  exact ⟨kPc_blind, fun U hU hW => ⟨rfl, by rw [hU], by rw [hU]; exact hP, va_K.moved hW.alike hK, hD.weaken (fun _ _ _ _ => trivial)⟩⟩
theorem k_preV {b : Nat} {As : List Value} {wc : va_W} {C : String} {T : u_T} {N ci : Nat} {fs : List Value} (hw : kW D ty s A ws H locs) (isC : List Nat) (hndC : va_nd isC = true) (hC : isC.map (fun i => ws[i]?) = wc.map some) (q0 : Nat) (he : ws[q0]? = some (b, .inr (ci, fs))) (hc : vwCl[ci]? = some (C, T, N)) : PreV s H C b (kPc D ty (.ref b :: As) wc H.size) As := by
  obtain ⟨h1, h2⟩ := k_pre (As := .ref b :: As) hw isC hndC hC
  exact ⟨h1, va_recv hw.2.2.2.1 hw.1 hc he, h2⟩
section KC
variable {Ts wm : List Cond} {bytes : ByteArray} {nL maxL index n mc ms : Nat} {own C : String} {y : MethodName} {ret : Option FieldType} {rm : Room} {b : Addr} {As : List Value} {st0 : List Value} {S : Type} {wc wr : va_W} {w : S → va_W}
theorem k_runV {Qc : Array Value → State → Outcome → State → Prop} {free : Addr → Prop} {T : u_T} {N ci : Nat} {fs : List Value} (hS : CallFix p m c cc nL s args Ts own) (hM : Met l y wm rm (kPc D ty (.ref b :: As) wc H.size) Qc mc ms free) (cw : CallW R s args own C index y bytes maxL ret wm rm mc ms n) (hw : kW D ty s A ws H locs) (isC : List Nat) (hndC : va_nd isC = true) (hC : isC.map (fun i => ws[i]?) = wc.map some) (q0 : Nat) (he : ws[q0]? = some (b, .inr (ci, fs))) (hc : vwCl[ci]? = some (C, T, N))
    (hn : As.length = n) (hsize : ls.size = nL) (hst : st0 = As.reverse ++ .ref b :: rest) (hrest : (rest.map fun v => v.category).sum ≤ 8) (hdg : decode cc pc = .ok (.invokevirtual index, 3)) (hf : cells + mc ≤ R.cells ∧ slots + ms ≤ R.slots) :
    va_Run p l e R s m args below meth c H locs cells slots mc ms (F0 m pc ls st0) rest (Qc (Value.ref b :: As).toArray) free :=
  va_runV hS hM cw (k_preV hw isC hndC hC q0 he hc) rfl hn hsize hst (lv_room hrest) hdg hf
theorem k_runS {Qc : Array Value → State → Outcome → State → Prop} {free : Addr → Prop} (hS : CallFix p m c cc nL s args Ts own) (hM : Met l y wm rm (kPc D ty As wc H.size) Qc mc ms free) (cw : CallB R s args own index y bytes maxL ret wm rm mc ms n ∧ (Cond.static y).before args s = true) (hw : kW D ty s A ws H locs) (isC : List Nat) (hndC : va_nd isC = true) (hC : isC.map (fun i => ws[i]?) = wc.map some)
    (hn : As.length = n) (hsize : ls.size = nL) (hst : st0 = As.reverse ++ rest) (hrest : (rest.map fun v => v.category).sum ≤ 8) (hdg : decode cc pc = .ok (.invokestatic index, 3)) (hf : cells + mc ≤ R.cells ∧ slots + ms ≤ R.slots) :
    va_Run p l e R s m args below meth c H locs cells slots mc ms (F0 m pc ls st0) rest (Qc As.toArray) free :=
  va_runS hS hM cw (k_pre hw isC hndC hC) rfl hn hsize hst (lv_room hrest) hdg hf
theorem k_runI {Qc : Array Value → State → Outcome → State → Prop} {free : Addr → Prop} (hS : CallFix p m c cc nL s args Ts own) (hM : Met l y wm rm (kPc D ty (.ref b :: As) wc H.size) Qc mc ms free) (cw : CallB R s args own index y bytes maxL none wm rm mc ms n ∧ y.name = "<init>" ∧ (Cond.instanceMethod y).before args s = true) (hw : kW D ty s A ws H locs) (isC : List Nat) (hndC : va_nd isC = true) (hC : isC.map (fun i => ws[i]?) = wc.map some)
    (hn : As.length = n) (hsize : ls.size = nL) (hst : st0 = As.reverse ++ .ref b :: rest) (hrest : (rest.map fun v => v.category).sum ≤ 8) (hdg : decode cc pc = .ok (.invokespecial index, 3)) (hf : cells + mc ≤ R.cells ∧ slots + ms ≤ R.slots) :
    va_Run p l e R s m args below meth c H locs cells slots mc ms (F0 m pc ls st0) rest (Qc (Value.ref b :: As).toArray) free :=
  va_runI hS hM cw (k_pre hw isC hndC hC) rfl hn hsize hst (lv_room hrest) hdg hf
theorem k_calli {post : Int32 → S → Prop} {aa : Array Value} (hr : va_Run p l e R s m args below meth c H locs cells slots mc ms (F0 m pc ls st0) rest (va_Qi post (kB D ty wc H.size w) (va_A wc H.size) aa) (va_A wc H.size)) (hw : kW D ty s A ws H locs) (isC isR : List Nat) (hC : isC.map (fun i => ws[i]?) = wc.map some) (hR : isR.map (fun i => ws[i]?) = wr.map some) (hn : va_nd isR = true) (hdis : ∀ i ∈ isR, i ∉ isC)
    (kk : ∀ (r : Int32) (u : S) (H1 : Heap) (locs1 : List Loc), post r u → kW D ty s A (wr ++ w u) H1 locs1 → W p l e R s m args below meth c H1 locs1 (cells + mc) (slots + ms) Q (F0 m (pc + 3) ls (.int r :: rest))) : W p l e R s m args below meth c H locs cells slots Q (F0 m pc ls st0) :=
  va_calli hr hw.2.2.1 (fun q _ h => va_free hw.2.1 hw.2.2.1 hw.2.2.2.2 isC hC q h) (va_free hw.2.1 hw.2.2.1 hw.2.2.2.2 isC hC) (fun r u t H1 locs1 ht _ hp hB _ hk1 hS1 => kk r u H1 locs1 hp (k_ans hw isC isR hC hR hn hdis ht hB hk1 hS1))
theorem k_calll {post : Int64 → S → Prop} {aa : Array Value} (hr : va_Run p l e R s m args below meth c H locs cells slots mc ms (F0 m pc ls st0) rest (va_Ql post (kB D ty wc H.size w) (va_A wc H.size) aa) (va_A wc H.size)) (hw : kW D ty s A ws H locs) (isC isR : List Nat) (hC : isC.map (fun i => ws[i]?) = wc.map some) (hR : isR.map (fun i => ws[i]?) = wr.map some) (hn : va_nd isR = true) (hdis : ∀ i ∈ isR, i ∉ isC)
    (kk : ∀ (r : Int64) (u : S) (H1 : Heap) (locs1 : List Loc), post r u → kW D ty s A (wr ++ w u) H1 locs1 → W p l e R s m args below meth c H1 locs1 (cells + mc) (slots + ms) Q (F0 m (pc + 3) ls (.long r :: rest))) : W p l e R s m args below meth c H locs cells slots Q (F0 m pc ls st0) :=
  va_calll hr hw.2.2.1 (fun q _ h => va_free hw.2.1 hw.2.2.1 hw.2.2.2.2 isC hC q h) (va_free hw.2.1 hw.2.2.1 hw.2.2.2.2 isC hC) (fun r u t H1 locs1 ht _ hp hB _ hk1 hS1 => kk r u H1 locs1 hp (k_ans hw isC isR hC hR hn hdis ht hB hk1 hS1))
theorem k_callf {post : UInt32 → S → Prop} {aa : Array Value} (hr : va_Run p l e R s m args below meth c H locs cells slots mc ms (F0 m pc ls st0) rest (va_Qf post (kB D ty wc H.size w) (va_A wc H.size) aa) (va_A wc H.size)) (hw : kW D ty s A ws H locs) (isC isR : List Nat) (hC : isC.map (fun i => ws[i]?) = wc.map some) (hR : isR.map (fun i => ws[i]?) = wr.map some) (hn : va_nd isR = true) (hdis : ∀ i ∈ isR, i ∉ isC)
    (kk : ∀ (r : UInt32) (u : S) (H1 : Heap) (locs1 : List Loc), post r u → kW D ty s A (wr ++ w u) H1 locs1 → W p l e R s m args below meth c H1 locs1 (cells + mc) (slots + ms) Q (F0 m (pc + 3) ls (.float r :: rest))) : W p l e R s m args below meth c H locs cells slots Q (F0 m pc ls st0) :=
  va_callf hr hw.2.2.1 (fun q _ h => va_free hw.2.1 hw.2.2.1 hw.2.2.2.2 isC hC q h) (va_free hw.2.1 hw.2.2.1 hw.2.2.2.2 isC hC) (fun r u t H1 locs1 ht _ hp hB _ hk1 hS1 => kk r u H1 locs1 hp (k_ans hw isC isR hC hR hn hdis ht hB hk1 hS1))
theorem k_calld {post : UInt64 → S → Prop} {aa : Array Value} (hr : va_Run p l e R s m args below meth c H locs cells slots mc ms (F0 m pc ls st0) rest (va_Qd post (kB D ty wc H.size w) (va_A wc H.size) aa) (va_A wc H.size)) (hw : kW D ty s A ws H locs) (isC isR : List Nat) (hC : isC.map (fun i => ws[i]?) = wc.map some) (hR : isR.map (fun i => ws[i]?) = wr.map some) (hn : va_nd isR = true) (hdis : ∀ i ∈ isR, i ∉ isC)
    (kk : ∀ (r : UInt64) (u : S) (H1 : Heap) (locs1 : List Loc), post r u → kW D ty s A (wr ++ w u) H1 locs1 → W p l e R s m args below meth c H1 locs1 (cells + mc) (slots + ms) Q (F0 m (pc + 3) ls (.double r :: rest))) : W p l e R s m args below meth c H locs cells slots Q (F0 m pc ls st0) :=
  va_calld hr hw.2.2.1 (fun q _ h => va_free hw.2.1 hw.2.2.1 hw.2.2.2.2 isC hC q h) (va_free hw.2.1 hw.2.2.1 hw.2.2.2.2 isC hC) (fun r u t H1 locs1 ht _ hp hB _ hk1 hS1 => kk r u H1 locs1 hp (k_ans hw isC isR hC hR hn hdis ht hB hk1 hS1))
theorem k_callv {post : S → Prop} {aa : Array Value} (hr : va_Run p l e R s m args below meth c H locs cells slots mc ms (F0 m pc ls st0) rest (va_Qv post (kB D ty wc H.size w) (va_A wc H.size) aa) (va_A wc H.size)) (hw : kW D ty s A ws H locs) (isC isR : List Nat) (hC : isC.map (fun i => ws[i]?) = wc.map some) (hR : isR.map (fun i => ws[i]?) = wr.map some) (hn : va_nd isR = true) (hdis : ∀ i ∈ isR, i ∉ isC)
    (kk : ∀ (u : S) (H1 : Heap) (locs1 : List Loc), post u → kW D ty s A (wr ++ w u) H1 locs1 → W p l e R s m args below meth c H1 locs1 (cells + mc) (slots + ms) Q (F0 m (pc + 3) ls rest)) : W p l e R s m args below meth c H locs cells slots Q (F0 m pc ls st0) :=
  va_callv hr hw.2.2.1 (fun q _ h => va_free hw.2.1 hw.2.2.1 hw.2.2.2.2 isC hC q h) (va_free hw.2.1 hw.2.2.1 hw.2.2.2.2 isC hC) (fun u t H1 locs1 ht _ hp hB _ hk1 hS1 => kk u H1 locs1 hp (k_ans hw isC isR hC hR hn hdis ht hB hk1 hS1))
end KC
end KQ
end
section
set_option maxRecDepth 100000 in
set_option maxHeartbeats 4000000 in
/-- X3_has -/
theorem c_X3_has (l : Launch) (D : va_G) (cI cC cJ cG : ClassId) (h0 : Nat) (sz : Nat) (h1 h2 h3 h4 : Nat) (n p0 : Int32) : kMi l yX3_has wsX3_has ({ frames := 0, cells := 0, slots := 0, locals := 0 }) D (kty cI cC cJ cG) [.ref h0, .int p0] [(h0, .inr (5, [.ref h1, .ref h2, .ref h3, .ref h4, .int n]))] sz 0 0 (fun (r : Int32) (_ : Unit) => r = if 0 ≤ p0 ∧ p0 < n then 1 else 0) (fun (_ : Unit) => [(h0, .inr (5, [.ref h1, .ref h2, .ref h3, .ref h4, .int n]))]) := by
  unfold kMi
  refine k_ofW (cc := cX3_has) (maxL := 2) (ret := (some .boolean)) (lv := [(0, .ref h0), (1, .int p0)]) (by decide) rfl (Nat.le_of_ble_eq_true rfl) rfl ?_
  intro p e s m args below meth c ls H locs hE hsz hw hl
  obtain ⟨hx, hb, hr, hml, hown, hts, hlocks⟩ := hE
  subst hsz
  have hown : s.vm.findClass RX3 = some m.cls := hown
  have k_f24 : (Cond.fieldLink RX3 24 "PaperMachine$OrderBook" "count" "I").before args s = true := hts _ (by decide +kernel)
  have i_X3 : ∀ w ∈ u_ws RX3 TX3 5, w ∈ wsX3_has := fun _ h => List.mem_cons_of_mem _ (List.mem_append_right _ h)
  refine lv_iload_n hx hb dX3_has_0 rfl (lv_at hl 1 rfl) ?_
  refine lv_if_lt (tgt := 16) hx hb dX3_has_1 (by decide) (fun c1 => ?_) (fun c1 => ?_)
  · refine lv_iconst (v := 0) hx hb dX3_has_16 (by decide) ?_
    exact k_zret (v := 0) () hx hb hr rfl hlocks hw (show (_ : Int32) = if 0 ≤ p0 ∧ p0 < n then 1 else 0 from by first | (rw [if_pos ⟨Int32.not_lt.mp c1, Int32.not_le.mp c9⟩]) | (rw [if_neg (fun h => absurd h.1 (Int32.not_le.mpr c1))]) | (rw [if_neg (fun h => absurd h.2 (Int32.not_lt.mpr c9))])) dX3_has_17
  · refine lv_iload_n hx hb dX3_has_4 rfl (lv_at hl 1 rfl) ?_
    refine lv_aload_n hx hb dX3_has_5 rfl (lv_at hl 0 rfl) ?_
    refine k_get hx hb hts i_X3 hown hw 0 4 rfl rfl (by decide) k_f24 rfl dX3_has_6 ?_
    refine lv_icmp_ge (tgt := 16) hx hb dX3_has_9 (by decide) (fun c9 => ?_) (fun c9 => ?_)
    · refine lv_iconst (v := 0) hx hb dX3_has_16 (by decide) ?_
      exact k_zret (v := 0) () hx hb hr rfl hlocks hw (show (_ : Int32) = if 0 ≤ p0 ∧ p0 < n then 1 else 0 from by first | (rw [if_pos ⟨Int32.not_lt.mp c1, Int32.not_le.mp c9⟩]) | (rw [if_neg (fun h => absurd h.1 (Int32.not_le.mpr c1))]) | (rw [if_neg (fun h => absurd h.2 (Int32.not_lt.mpr c9))])) dX3_has_17
    · refine lv_iconst (v := 1) hx hb dX3_has_12 (by decide) ?_
      refine lv_goto (tgt := 17) hx hb dX3_has_13 (by decide) ?_
      exact k_zret (v := 1) () hx hb hr rfl hlocks hw (show (_ : Int32) = if 0 ≤ p0 ∧ p0 < n then 1 else 0 from by first | (rw [if_pos ⟨Int32.not_lt.mp c1, Int32.not_le.mp c9⟩]) | (rw [if_neg (fun h => absurd h.1 (Int32.not_le.mpr c1))]) | (rw [if_neg (fun h => absurd h.2 (Int32.not_lt.mpr c9))])) dX3_has_17

set_option maxRecDepth 100000 in
set_option maxHeartbeats 4000000 in
/-- X3_isFull -/
theorem c_X3_isFull (l : Launch) (D : va_G) (cI cC cJ cG : ClassId) (h0 : Nat) (sz : Nat) (h1 h2 h3 h4 : Nat) (n : Int32) : kMi l yX3_isFull wsX3_isFull ({ frames := 0, cells := 0, slots := 0, locals := 0 }) D (kty cI cC cJ cG) [.ref h0] [(h0, .inr (5, [.ref h1, .ref h2, .ref h3, .ref h4, .int n]))] sz 0 0 (fun (r : Int32) (_ : Unit) => r = if 10 ≤ n then 1 else 0) (fun (_ : Unit) => [(h0, .inr (5, [.ref h1, .ref h2, .ref h3, .ref h4, .int n]))]) := by
  unfold kMi
  refine k_ofW (cc := cX3_isFull) (maxL := 1) (ret := (some .boolean)) (lv := [(0, .ref h0)]) (by decide) rfl (Nat.le_of_ble_eq_true rfl) rfl ?_
  intro p e s m args below meth c ls H locs hE hsz hw hl
  obtain ⟨hx, hb, hr, hml, hown, hts, hlocks⟩ := hE
  subst hsz
  have hown : s.vm.findClass RX3 = some m.cls := hown
  have k_f24 : (Cond.fieldLink RX3 24 "PaperMachine$OrderBook" "count" "I").before args s = true := hts _ (by decide +kernel)
  have i_X3 : ∀ w ∈ u_ws RX3 TX3 5, w ∈ wsX3_isFull := fun _ h => List.mem_cons_of_mem _ (List.mem_append_right _ h)
  refine lv_aload_n hx hb dX3_isFull_0 rfl (lv_at hl 0 rfl) ?_
  refine k_get hx hb hts i_X3 hown hw 0 4 rfl rfl (by decide) k_f24 rfl dX3_isFull_1 ?_
  refine lv_bipush (v := 10) hx hb dX3_isFull_4 (by decide) ?_
  refine lv_icmp_lt (tgt := 13) hx hb dX3_isFull_6 (by decide) (fun c6 => ?_) (fun c6 => ?_)
  · refine lv_iconst (v := 0) hx hb dX3_isFull_13 (by decide) ?_
    exact k_zret (v := 0) () hx hb hr rfl hlocks hw (show (_ : Int32) = if 10 ≤ n then 1 else 0 from by first | rw [if_pos c6] | rw [if_neg c6]) dX3_isFull_14
  · refine lv_iconst (v := 1) hx hb dX3_isFull_9 (by decide) ?_
    refine lv_goto (tgt := 14) hx hb dX3_isFull_10 (by decide) ?_
    exact k_zret (v := 1) () hx hb hr rfl hlocks hw (show (_ : Int32) = if 10 ≤ n then 1 else 0 from by first | rw [if_pos c6] | rw [if_neg c6]) dX3_isFull_14

set_option maxRecDepth 100000 in
set_option maxHeartbeats 4000000 in
/-- X4_isWithin -/
theorem c_X4_isWithin (l : Launch) (D : va_G) (cI cC cJ cG : ClassId) (sz : Nat) (p0 p1 p2 : Int32) : kMi l yX4_isWithin wsX4_isWithin ({ frames := 0, cells := 0, slots := 0, locals := 0 }) D (kty cI cC cJ cG) [.int p0, .int p1, .int p2] [] sz 0 0 (fun (r : Int32) (_ : Unit) => r = if p1 ≤ p0 ∧ p0 ≤ p2 then 1 else 0) (fun (_ : Unit) => []) := by
  unfold kMi
  refine k_ofW (cc := cX4_isWithin) (maxL := 3) (ret := (some .boolean)) (lv := [(0, .int p0), (1, .int p1), (2, .int p2)]) (by decide) rfl (Nat.le_of_ble_eq_true rfl) rfl ?_
  intro p e s m args below meth c ls H locs hE hsz hw hl
  obtain ⟨hx, hb, hr, hml, hown, hts, hlocks⟩ := hE
  subst hsz
  have hown : s.vm.findClass RX4 = some m.cls := hown
  refine lv_iload_n hx hb dX4_isWithin_0 rfl (lv_at hl 0 rfl) ?_
  refine lv_iload_n hx hb dX4_isWithin_1 rfl (lv_at hl 1 rfl) ?_
  refine lv_icmp_lt (tgt := 14) hx hb dX4_isWithin_2 (by decide) (fun c2 => ?_) (fun c2 => ?_)
  · refine lv_iconst (v := 0) hx hb dX4_isWithin_14 (by decide) ?_
    exact k_zret (v := 0) () hx hb hr rfl hlocks hw (show (_ : Int32) = if p1 ≤ p0 ∧ p0 ≤ p2 then 1 else 0 from by first | rw [if_pos ⟨Int32.not_lt.mp c2, Int32.not_lt.mp c7⟩] | rw [if_neg (fun h => absurd h.1 (Int32.not_le.mpr c2))] | rw [if_neg (fun h => absurd h.2 (Int32.not_le.mpr c7))]) dX4_isWithin_15
  · refine lv_iload_n hx hb dX4_isWithin_5 rfl (lv_at hl 0 rfl) ?_
    refine lv_iload_n hx hb dX4_isWithin_6 rfl (lv_at hl 2 rfl) ?_
    refine lv_icmp_gt (tgt := 14) hx hb dX4_isWithin_7 (by decide) (fun c7 => ?_) (fun c7 => ?_)
    · refine lv_iconst (v := 0) hx hb dX4_isWithin_14 (by decide) ?_
      exact k_zret (v := 0) () hx hb hr rfl hlocks hw (show (_ : Int32) = if p1 ≤ p0 ∧ p0 ≤ p2 then 1 else 0 from by first | rw [if_pos ⟨Int32.not_lt.mp c2, Int32.not_lt.mp c7⟩] | rw [if_neg (fun h => absurd h.1 (Int32.not_le.mpr c2))] | rw [if_neg (fun h => absurd h.2 (Int32.not_le.mpr c7))]) dX4_isWithin_15
    · refine lv_iconst (v := 1) hx hb dX4_isWithin_10 (by decide) ?_
      refine lv_goto (tgt := 15) hx hb dX4_isWithin_11 (by decide) ?_
      exact k_zret (v := 1) () hx hb hr rfl hlocks hw (show (_ : Int32) = if p1 ≤ p0 ∧ p0 ≤ p2 then 1 else 0 from by first | rw [if_pos ⟨Int32.not_lt.mp c2, Int32.not_lt.mp c7⟩] | rw [if_neg (fun h => absurd h.1 (Int32.not_le.mpr c2))] | rw [if_neg (fun h => absurd h.2 (Int32.not_le.mpr c7))]) dX4_isWithin_15
end
