section
/-! no NaN -/
theorem fl_64 {x : UInt64} (h : Jvm.FP.Core.val64 x ≠ .nan) : vf_n64 x := by
  unfold vf_n64
  rw [UInt64.le_iff_toNat_le, UInt64.toNat_and]
  have e1 : (0x7fffffffffffffff : UInt64).toNat = 2 ^ 63 - 1 := by decide
  have e2 : (0x7ff0000000000000 : UInt64).toNat = 2047 * 2 ^ 52 := by decide
  rw [e1, e2, Nat.and_two_pow_sub_one_eq_mod]
  simp only [Jvm.FP.Core.val64, Jvm.FP.Core.decode, Jvm.FP.Core.fieldE, Jvm.FP.Core.fieldT, show Jvm.FP.Core.Fmt.tails Jvm.FP.Core.b64 = 2 ^ 52 from by decide, show Jvm.FP.Core.Fmt.exps Jvm.FP.Core.b64 = 2 ^ 11 from by decide] at h
  by_cases c : x.toNat / 2 ^ 52 % 2 ^ 11 = 2 ^ 11 - 1
  · rw [if_pos c] at h
    by_cases c2 : x.toNat % 2 ^ 52 = 0
    · omega
    · rw [if_neg c2] at h; exact absurd rfl h
  · omega
theorem fl_32 {x : UInt32} (h : Jvm.FP.Core.val32 x ≠ .nan) : vf_n32 x := by
  unfold vf_n32
  rw [UInt32.le_iff_toNat_le, UInt32.toNat_and]
  have e1 : (0x7fffffff : UInt32).toNat = 2 ^ 31 - 1 := by decide
  have e2 : (0x7f800000 : UInt32).toNat = 255 * 2 ^ 23 := by decide
  rw [e1, e2, Nat.and_two_pow_sub_one_eq_mod]
  simp only [Jvm.FP.Core.val32, Jvm.FP.Core.decode, Jvm.FP.Core.fieldE, Jvm.FP.Core.fieldT, show Jvm.FP.Core.Fmt.tails Jvm.FP.Core.b32 = 2 ^ 23 from by decide, show Jvm.FP.Core.Fmt.exps Jvm.FP.Core.b32 = 2 ^ 8 from by decide] at h
  by_cases c : x.toNat / 2 ^ 23 % 2 ^ 8 = 2 ^ 8 - 1
  · rw [if_pos c] at h
    by_cases c2 : x.toNat % 2 ^ 23 = 0
    · omega
    · rw [if_neg c2] at h; exact absurd rfl h
  · omega
/-- a rounded number is one -/
theorem fl_rr {f : Jvm.FP.Core.Fmt} (s : Bool) (n d : Nat) (e : Int) : Jvm.FP.Core.roundRatio f s n d e ≠ .nan := by
  unfold Jvm.FP.Core.roundRatio
  split
  · exact fun h => nomatch h
  · unfold Jvm.FP.Core.roundAt Jvm.FP.Core.settle Jvm.FP.Core.bound
    split <;> split <;> exact fun h => nomatch h
/-- whole numbers: a quotient by one that is not zero -/
theorem fl_q {f : Jvm.FP.Core.Fmt} {i j : Int} {a b : Jvm.FP.Core.Datum} (ha : Jvm.FP.Core.Whole i a) (hb : Jvm.FP.Core.Whole j b) (hj : j ≠ 0) : Jvm.FP.Core.quotient f a b ≠ .nan := by
  match a, ha with
  | .fin s c q, ha =>
    match b, hb with
    | .fin t d r, hb =>
      have hd : d ≠ 0 := fun z => hj ((Jvm.FP.Core.whole_zero hb).mp z)
      show (if d = 0 then _ else _) ≠ _
      rw [if_neg hd]
      exact fl_rr _ _ _ _
theorem fl_l2f {a : Int64} (h : a.toInt.natAbs ≤ 2 ^ 24) : Jvm.FP.Core.Whole a.toInt (Jvm.FP.Core.val32 (FP.l2f a)) := by
  show Jvm.FP.Core.Whole a.toInt (Jvm.FP.Core.val32 (Jvm.FP.Core.l2f a))
  rw [Jvm.FP.Core.val32_l2f]
  exact Jvm.FP.Core.whole_round Jvm.FP.Core.good_b32 Jvm.FP.Core.wide_b32 h (Jvm.FP.Core.whole_ofInt _)
theorem fl_fdiv {a b : Int64} (ha : a.toInt.natAbs ≤ 2 ^ 24) (hb : b.toInt.natAbs ≤ 2 ^ 24) (h0 : b.toInt ≠ 0) : vf_n32 (FP.fdiv (FP.l2f a) (FP.l2f b)) := by
  refine fl_32 ?_
  show Jvm.FP.Core.val32 (Jvm.FP.Core.fdiv (FP.l2f a) (FP.l2f b)) ≠ .nan
  rw [Jvm.FP.Core.val32_fdiv]
  exact fl_q (fl_l2f ha) (fl_l2f hb) h0
theorem fl_ddiv {a b : Int32} (h0 : b.toInt ≠ 0) : vf_n64 (FP.ddiv (FP.i2d a) (FP.i2d b)) := by
  refine fl_64 ?_
  show Jvm.FP.Core.val64 (Jvm.FP.Core.ddiv (Jvm.FP.Core.i2d a) (Jvm.FP.Core.i2d b)) ≠ .nan
  rw [Jvm.FP.Core.val64_ddiv]
  exact fl_q (Jvm.FP.Core.i2d_int a) (Jvm.FP.Core.i2d_int b) h0
theorem fl_l2d (x : Int32) : FP.l2d (Int32.toInt64 x) = FP.i2d x := by
  show UInt64.ofNat _ = UInt64.ofNat _
  rw [Int32.toInt_toInt64]
/-- a float that is no NaN, made a double -/
theorem fl_f2d {a b : Int64} (ha : a.toInt.natAbs ≤ 2 ^ 24) (hb : b.toInt.natAbs ≤ 2 ^ 24) (h0 : b.toInt ≠ 0) : vf_n64 (FP.f2d (FP.fdiv (FP.l2f a) (FP.l2f b))) := by
  refine fl_64 ?_
  have hv : Jvm.FP.Core.val32 (FP.fdiv (FP.l2f a) (FP.l2f b)) ≠ .nan := by
    show Jvm.FP.Core.val32 (Jvm.FP.Core.fdiv (FP.l2f a) (FP.l2f b)) ≠ .nan
    rw [Jvm.FP.Core.val32_fdiv]
    exact fl_q (fl_l2f ha) (fl_l2f hb) h0
  have hi : FP.fIsNaN (FP.fdiv (FP.l2f a) (FP.l2f b)) = false := by
    rw [← Bool.not_eq_true]
    exact fun z => hv ((Jvm.FP.Core.fIsNaN_iff _).mp z)
  rw [FP.f2d_core hi, Jvm.FP.Core.val64_f2d]
  obtain ⟨d, hd⟩ : ∃ d, d = Jvm.FP.Core.val32 (FP.fdiv (FP.l2f a) (FP.l2f b)) := ⟨_, rfl⟩
  rw [← hd] at hv ⊢
  match d, hv with
  | .inf s, _ => exact fun h => nomatch h
  | .fin s c q, _ => exact fl_rr _ _ _ _
/-! doubles that are no NaN are equal to themselves -/
theorem fl_v64 {x : UInt64} (h : vf_n64 x) : Jvm.FP.Core.val64 x ≠ .nan := by
  unfold vf_n64 at h
  rw [UInt64.le_iff_toNat_le, UInt64.toNat_and] at h
  have e1 : (0x7fffffffffffffff : UInt64).toNat = 2 ^ 63 - 1 := by decide
  have e2 : (0x7ff0000000000000 : UInt64).toNat = 2047 * 2 ^ 52 := by decide
  rw [e1, e2, Nat.and_two_pow_sub_one_eq_mod] at h
  simp only [Jvm.FP.Core.val64, Jvm.FP.Core.decode, Jvm.FP.Core.fieldE, Jvm.FP.Core.fieldT, show Jvm.FP.Core.Fmt.tails Jvm.FP.Core.b64 = 2 ^ 52 from by decide, show Jvm.FP.Core.Fmt.exps Jvm.FP.Core.b64 = 2 ^ 11 from by decide]
  by_cases c : x.toNat / 2 ^ 52 % 2 ^ 11 = 2 ^ 11 - 1
  · rw [if_pos c]
    by_cases c2 : x.toNat % 2 ^ 52 = 0
    · rw [if_pos c2]; exact fun h => nomatch h
    · omega
  · rw [if_neg c]
    split <;> exact fun h => nomatch h
theorem fl_cmp {x : UInt64} (h : vf_n64 x) : Op.cmpValue (FP.dcmp x x) .l = 0 := by
  have e : FP.dcmp x x = some .eq := Jvm.FP.Core.dcmp_self (fl_v64 h)
  rw [e]
  rfl
theorem fl_v32 {x : UInt32} (h : vf_n32 x) : Jvm.FP.Core.val32 x ≠ .nan := by
  unfold vf_n32 at h
  rw [UInt32.le_iff_toNat_le, UInt32.toNat_and] at h
  have e1 : (0x7fffffff : UInt32).toNat = 2 ^ 31 - 1 := by decide
  have e2 : (0x7f800000 : UInt32).toNat = 255 * 2 ^ 23 := by decide
  rw [e1, e2, Nat.and_two_pow_sub_one_eq_mod] at h
  simp only [Jvm.FP.Core.val32, Jvm.FP.Core.decode, Jvm.FP.Core.fieldE, Jvm.FP.Core.fieldT, show Jvm.FP.Core.Fmt.tails Jvm.FP.Core.b32 = 2 ^ 23 from by decide, show Jvm.FP.Core.Fmt.exps Jvm.FP.Core.b32 = 2 ^ 8 from by decide]
  by_cases c : x.toNat / 2 ^ 23 % 2 ^ 8 = 2 ^ 8 - 1
  · rw [if_pos c]
    by_cases c2 : x.toNat % 2 ^ 23 = 0
    · rw [if_pos c2]; exact fun h => nomatch h
    · omega
  · rw [if_neg c]
    split <;> exact fun h => nomatch h
theorem fl_fcmp {x : UInt32} (h : vf_n32 x) : Op.cmpValue (FP.fcmp x x) .l = 0 := by
  have e : FP.fcmp x x = some .eq := Jvm.FP.Core.fcmp_self (fl_v32 h)
  rw [e]
  rfl
end
section
-- ===== PART A: goes FIRST, ahead of the names: the tables' words, and 'selects' of the private methods out of them =====
/-- a private method of a class that the tables say can be made, by its rows of tables_1 -/
def lw_okq (q : MethodName × Nat) : Prop := (q.1.cls ≠ "java/lang/invoke/MethodHandle" ∧ q.1.cls ≠ "java/lang/invoke/VarHandle") ∧ Cond.instantiable q.1.cls q.2 ∈ tables_1 ∧ Cond.privateMethod q.1 ∈ tables_1 ∧ Cond.instanceMethod q.1 ∈ tables_1
theorem lw_p0 : lw_okq (⟨"PaperMachine", "isWeightTaken", "(I)Z"⟩, 13) := ⟨⟨by decide +kernel, by decide +kernel⟩, List.mem_of_getElem? (i := 20) (by decide +kernel), List.mem_of_getElem? (i := 202) (by decide +kernel), List.mem_of_getElem? (i := 203) (by decide +kernel)⟩
theorem lw_p1 : lw_okq (⟨"java/lang/Throwable", "fillInStackTrace", "(I)Ljava/lang/Throwable;"⟩, 6) := ⟨⟨by decide +kernel, by decide +kernel⟩, List.mem_of_getElem? (i := 247) (by decide +kernel), List.mem_of_getElem? (i := 245) (by decide +kernel), List.mem_of_getElem? (i := 246) (by decide +kernel)⟩
theorem lw_p2 : lw_okq (⟨"PaperMachine", "isGrade", "(I)Z"⟩, 13) := ⟨⟨by decide +kernel, by decide +kernel⟩, List.mem_of_getElem? (i := 20) (by decide +kernel), List.mem_of_getElem? (i := 451) (by decide +kernel), List.mem_of_getElem? (i := 452) (by decide +kernel)⟩
theorem lw_p3 : lw_okq (⟨"PaperMachine", "nearestWaiting", "(IZ)I"⟩, 13) := ⟨⟨by decide +kernel, by decide +kernel⟩, List.mem_of_getElem? (i := 20) (by decide +kernel), List.mem_of_getElem? (i := 455) (by decide +kernel), List.mem_of_getElem? (i := 456) (by decide +kernel)⟩
theorem lw_p4 : lw_okq (⟨"PaperMachine$Cutter", "keepIfGreater", "(I)V"⟩, 8) := ⟨⟨by decide +kernel, by decide +kernel⟩, List.mem_of_getElem? (i := 56) (by decide +kernel), List.mem_of_getElem? (i := 546) (by decide +kernel), List.mem_of_getElem? (i := 547) (by decide +kernel)⟩
theorem lw_p5 : lw_okq (⟨"PaperMachine", "massOfAnHour", "(I)I"⟩, 13) := ⟨⟨by decide +kernel, by decide +kernel⟩, List.mem_of_getElem? (i := 20) (by decide +kernel), List.mem_of_getElem? (i := 575) (by decide +kernel), List.mem_of_getElem? (i := 576) (by decide +kernel)⟩
theorem lw_p6 : lw_okq (⟨"PaperMachineLaw$Mill", "makes", "(IZ)V"⟩, 23) := ⟨⟨by decide +kernel, by decide +kernel⟩, List.mem_of_getElem? (i := 293) (by decide +kernel), List.mem_of_getElem? (i := 674) (by decide +kernel), List.mem_of_getElem? (i := 675) (by decide +kernel)⟩
theorem lw_p7 : lw_okq (⟨"PaperMachine", "passAnHour", "()I"⟩, 13) := ⟨⟨by decide +kernel, by decide +kernel⟩, List.mem_of_getElem? (i := 20) (by decide +kernel), List.mem_of_getElem? (i := 689) (by decide +kernel), List.mem_of_getElem? (i := 690) (by decide +kernel)⟩
theorem lw_p8 : lw_okq (⟨"PaperMachine", "make", "(CII)V"⟩, 13) := ⟨⟨by decide +kernel, by decide +kernel⟩, List.mem_of_getElem? (i := 20) (by decide +kernel), List.mem_of_getElem? (i := 701) (by decide +kernel), List.mem_of_getElem? (i := 702) (by decide +kernel)⟩
def lw_privs_1 : List (MethodName × Nat) := [(⟨"PaperMachine", "isWeightTaken", "(I)Z"⟩, 13), (⟨"java/lang/Throwable", "fillInStackTrace", "(I)Ljava/lang/Throwable;"⟩, 6), (⟨"PaperMachine", "isGrade", "(I)Z"⟩, 13), (⟨"PaperMachine", "nearestWaiting", "(IZ)I"⟩, 13), (⟨"PaperMachine$Cutter", "keepIfGreater", "(I)V"⟩, 8), (⟨"PaperMachine", "massOfAnHour", "(I)I"⟩, 13), (⟨"PaperMachineLaw$Mill", "makes", "(IZ)V"⟩, 23), (⟨"PaperMachine", "passAnHour", "()I"⟩, 13), (⟨"PaperMachine", "make", "(CII)V"⟩, 13)]
theorem lw_r1 : ∀ q ∈ lw_privs_1, lw_okq q := List.forall_mem_cons.mpr ⟨lw_p0, List.forall_mem_cons.mpr ⟨lw_p1, List.forall_mem_cons.mpr ⟨lw_p2, List.forall_mem_cons.mpr ⟨lw_p3, List.forall_mem_cons.mpr ⟨lw_p4, List.forall_mem_cons.mpr ⟨lw_p5, List.forall_mem_cons.mpr ⟨lw_p6, List.forall_mem_cons.mpr ⟨lw_p7, List.forall_mem_cons.mpr ⟨lw_p8, fun _ h => absurd h List.not_mem_nil⟩⟩⟩⟩⟩⟩⟩⟩⟩
def lw_privs : List (MethodName × Nat) := lw_privs_1
def lw_tbl : List Cond := k2_sels lw_privs ++ tables_1
theorem lw_privs_ok : ∀ q ∈ lw_privs, lw_okq q := lw_r1
/-- the streams that the claim lets the run draw from -/
abbrev lw_cs : List Choice := [Jvm.Choice.named "NaN.bits"]
theorem lw_bits : nanBits ∈ lw_cs := by first | decide | exact List.mem_cons_self | simp [lw_cs, nanBits]
end
section
/-! ===== BEGIN words of one list among another's, by their places ===== -/
theorem goodIn_r {big : List Cond} (ws : List Cond) (ps : List Nat) (hp : ws = ps.filterMap (fun i => big[i]?)) (h : ws.all goodWord = true) : GoodIn big ws := by
  intro w hw
  have h1 := List.all_eq_true.mp h w hw
  rw [hp] at hw
  obtain ⟨i, -, hi⟩ := List.mem_filterMap.mp hw
  have hm : w ∈ big := by first | exact List.mem_of_getElem? hi | exact List.getElem?_mem hi
  exact ⟨hm, good_of_word h1⟩
theorem goodIn_app {big a b : List Cond} (ha : GoodIn big a) (hb : GoodIn big b) : GoodIn big (a ++ b) := fun w h => (List.mem_append.mp h).elim (ha w) (hb w)
theorem goodIn_ca {big a b : List Cond} {c : Cond} (ha : GoodIn big (c :: a)) (hb : GoodIn big b) : GoodIn big (c :: (a ++ b)) := fun w h => (List.mem_cons.mp h).elim (fun e => ha w (List.mem_cons.mpr (Or.inl e))) (fun h => (List.mem_append.mp h).elim (fun h => ha w (List.mem_cons.mpr (Or.inr h))) (hb w))
theorem goodIn_sub {big ws : List Cond} (hm : ∀ w ∈ ws, w ∈ big) (h : ws.all goodWord = true) : GoodIn big ws := fun w hw => ⟨hm w hw, good_of_word (List.all_eq_true.mp h w hw)⟩
/-! ===== END ===== -/

/-! ===== BEGIN exceptions that leave a method, and their catching by the caller (launches without stack traces) ===== -/
section VXA
/-! The laws vx_back, vx_callV, vx_callS, vx_callSW, vx_throw0, vx_throwS follow proofs of the library, with one case more: JvmDerived/Free/Laws.lean (Back.of_free), Shelf42/LK1.lean (callV, callS), Shelf/KitTraced.lean (throwNew0V, throwNewS). -/
/-- where a method has thrown q: the class by its name, the cell, what was written, the world -/
def vx_T (XC : String → State → State → Prop) (st : State) (q : Addr) (t : State) (mc ms : Nat) (free : Addr → Prop) : Prop :=
  ∃ (E : String) (ce : Cell) (L : List Loc), XC E st t ∧ t.heap[q]? = some ce ∧ ce.vm = .none ∧ st.vm.findClass E = some ce.cls ∧ st.WarmedH t.vm ∧ st.sameButNew ({ t with vm := st.vm } : State) L mc ms ∧ ∀ z ∈ L, free z.base
def vx_Q (Qc : Array Value → State → Outcome → State → Prop) (XC : String → State → State → Prop) (mc ms : Nat) (free : Addr → Prop) : Array Value → State → Outcome → State → Prop := fun a st o t =>
  (Qc a st o t ∧ ∃ L, FrameEnd st o t L mc ms ∧ ∀ q ∈ L, free q.base) ∨ ∃ q, o = .threw q ∧ vx_T XC st q t mc ms free
/-- a callee that returns or throws -/
def vx_Met (l : Launch) (y : MethodName) (ws : List Cond) (rm : Room) (Pc : Array Value → State → Prop) (Qc : Array Value → State → Outcome → State → Prop) (XC : String → State → State → Prop) (mc ms : Nat) (free : Addr → Prop) : Prop :=
  MetFree l y (headSpec ws rm) Pc (fun _ _ _ _ _ => True) (vx_Q Qc XC mc ms free)
def vx_Post (XC : String → State → State → Prop) (mc ms : Nat) (free : Addr → Prop) : Pt → Array Value → Addr → Pt → Prop := fun A a q B =>
  ∃ (g : JFrame) (mk : MethodId) (t : State) (L : List Loc) (E : String) (ce : Cell), B.U.heap = t.heap ∧ B.U.vm = t.vm ∧ XC E (A.U.calling g mk a) t ∧ t.heap[q]? = some ce ∧ ce.vm = .none ∧ A.U.vm.findClass E = some ce.cls ∧ B.locs = A.locs ++ L ∧ (∀ z ∈ L, free z.base) ∧ B.cells = A.cells + mc ∧ B.slots = A.slots + ms
def vx_Back (l : Launch) (R : Room) (p : Program) (e : Env) (below : List Frame) (s : State) (sargs : Array Value) (y : MethodName) (len W9 : Nat)
    (Pre : Pt → Array Value → Prop) (Post : Pt → Array Value → Option Value → Pt → Prop) (PostX : Pt → Array Value → Addr → Pt → Prop) : Prop :=
  ∀ (m : MethodId) (meth : Method) (c : Code) (A : Pt) (g : JFrame) (ig : Instr) (mk : MethodId) (a : Array Value),
    Stand p l e R s m sargs below meth c A.U A.locs A.cells A.slots → g.method = m → g.locals.size = c.maxLocals → decode c.code g.pc = .ok (ig, len) →
    2 * g.monitorRoom + (g.stack.map fun v => v.category).sum ≤ W9 → A.U.methodNamed? y = some mk → Pre A a →
    (∃ (v : Option Value) (B : Pt), Stand p l e R s m sargs below meth c B.U B.locs B.cells B.slots ∧ Post A a v B ∧
      Steps p.tables e below (doInvoke e (A.U.setTop g) [] mk a).1 (B.U.setTop { g with pc := g.pc + len, stack := v.toList ++ g.stack })) ∨
    (∃ (q : Addr) (B : Pt), Stand p l e R s m sargs below meth c B.U B.locs B.cells B.slots ∧ PostX A a q B ∧
      Steps p.tables e below (doInvoke e (A.U.setTop g) [] mk a).1 ((B.U.setTop g).pushFrame (.throwing q)))
section Payer
variable {l : Launch} {R : Room} {p : Program} {e : Env} {below : List Frame} {s : State} {sargs : Array Value} {y : MethodName} {len W9 : Nat}
theorem vx_back {ws : List Cond} {rm : Room} {Pc : Array Value → State → Prop} {Qc : Array Value → State → Outcome → State → Prop} {XC : String → State → State → Prop} {mc ms : Nat} {free : Addr → Prop} {bytes : ByteArray} {maxL : Nat} {ret : Option FieldType}
    (hM : vx_Met l y ws rm Pc Qc XC mc ms free) (hblind : FrameBlind Pc) (hrc : rm.cells = mc) (hrs : rm.slots = ms)
    (hframes : rm.frames + 1 ≤ R.frames) (hlocals : W9 + (maxL + 11) + rm.locals ≤ R.locals)
    (hws : ∀ w ∈ ws, ∀ a' U, s.WarmedH U.vm → w.before a' U = true) (hcode : Cond.code y bytes maxL ret ∈ ws) (hinit : ∀ a' U, s.WarmedH U.vm → (Cond.initialized y.cls).before a' U = true) :
    vx_Back l R p e below s sargs y len W9 (PreOf R mc ms Pc) (PostOf Qc mc ms free) (vx_Post XC mc ms free) := by
  intro m meth c A g ig mk a X hg hsize hdg hW hn hp
  have h1 : (headSpec ws rm).pre.before a A.U = true := atoms_intro fun w hw => hws w hw _ _ X.warmed
  have h2 : (Cond.code y bytes maxL ret).before a A.U = true := hws _ hcode _ _ X.warmed
  have h3 : (Cond.initialized y.cls).before a A.U = true := hinit _ _ X.warmed
  have h4 : A.cells + (headSpec ws rm).room.cells ≤ R.cells := by rw [show (headSpec ws rm).room.cells = mc from hrc]; exact hp.1
  have h5 : A.slots + (headSpec ws rm).room.slots ≤ R.slots := by rw [show (headSpec ws rm).room.slots = ms from hrs]; exact hp.2.1
  have hPc : Pc a (A.U.calling g mk a) := hblind _ _ _ _ hp.2.2
  obtain ⟨U, Ls, c0, s0⟩ := A
  dsimp only [Pt.U, Pt.locs, Pt.cells, Pt.slots] at h1 h2 h3 h4 h5 X hn hPc ⊢
  obtain ⟨methY, cY, hmY, hcY, -, hlY, -, -, -, -⟩ := Cond.code_spec hn h2
  obtain ⟨kY, hkY, -⟩ := className_of_methodNamed hn
  have hinitY : kY.init = .initialized := Cond.initialized_spec (findClass_of_methodNamed hn) hkY h3
  have h : At U g.method c below := by rw [hg]; exact X.here
  have hlocals9 : W9 + (maxL + 11) + (headSpec ws rm).room.locals ≤ R.locals := hlocals
  have happ : (headSpec ws rm).appliesLoose y e.platform (U.calling g mk a) = true :=
    Spec.appliesLoose_calling (g := g) h hdg hn hkY hinitY
      (X.room_calling (g := g) (R' := (headSpec ws rm).room) hsize hmY hcY hframes (by rw [hlY]; omega) h4 h5) h1
  obtain ⟨mid, hmid⟩ := h.above
  have hfr : (U.setTop g).frames = (.java g :: mid) ++ below := by rw [State.frames_setTop' g h.top, hmid]; rfl
  obtain ⟨o, s₂, hsteps, -, hend, hq⟩ := Steps.callFree hM p X.admits X.cas X.clock (acts := []) hfr happ hPc trivial
  have hq' : vx_Q Qc XC mc ms free a (U.calling g mk a) o s₂ := hq
  rw [State.frames_setTop' g h.top] at hend
  obtain ⟨g₀, hg0⟩ := Option.isSome_iff_exists.mp h.top
  obtain ⟨r, hr⟩ := State.topJava?_eq_some.mp hg0
  have hr' : (({ U with heap := s₂.heap, slotsUsed := s₂.slotsUsed } : State).setVm s₂.vm).frames = .java g₀ :: r := hr
  rcases hq' with ⟨hqc, L, hfe, hL⟩ | ⟨q, rfl, E, ce, L, hx, hce, hcv, hcl, hW₂, hsm, hL⟩
  · obtain ⟨⟨v, rfl⟩, hW₂, e2, q2, q3, q4, q5, q6⟩ := id hfe
    have e3 : s₂ = ({ (U.calling g mk a).setFrames s₂.frames with heap := s₂.heap, slotsUsed := s₂.slotsUsed } : State).setVm s₂.vm := by
      have : s₂ = ({ s₂ with vm := (U.calling g mk a).vm } : State).setVm s₂.vm := rfl
      rw [e2] at this
      exact this
    obtain ⟨c₂, i₂, len₂, hc₂, hd₂, hf₂⟩ := hend
    have hW' : U.WarmedH s₂.vm := hW₂
    have hcc : c₂ = c := by
      have h1 : s₂.code? g.method = U.code? g.method := by
        rw [State.code?_eq, State.code?_eq, hW'.alike.method?]
      exact Option.some.inj (hc₂.symm.trans (h1.trans h.code))
    subst hcc
    have hlen : len₂ = len := by rw [hdg] at hd₂; cases hd₂; rfl
    subst hlen
    have hs₂ : s₂ = (({ U with heap := s₂.heap, slotsUsed := s₂.slotsUsed } : State).setVm s₂.vm).setTop { g with pc := g.pc + len₂, stack := v.toList ++ g.stack } := by
      refine e3.trans ?_
      rw [hf₂, State.calling_eq h.top, State.setFrames_setFrames, State.setTop_of_frames _ hr', hr]
      rfl
    have hsame : U.sameButNew ({ U with heap := s₂.heap, slotsUsed := s₂.slotsUsed } : State) L mc ms := by
      refine ⟨?_, q2, q3, q4, q5, q6⟩
      obtain ⟨t, ht, -⟩ := State.frames_cons hr
      show ({ U with heap := s₂.heap, slotsUsed := s₂.slotsUsed } : State) = { U.setFrames U.frames with heap := s₂.heap, slotsUsed := s₂.slotsUsed }
      rw [State.setFrames_self ht]
    subst hg
    refine Or.inl ⟨v, ⟨(({ U with heap := s₂.heap, slotsUsed := s₂.slotsUsed } : State).setVm s₂.vm), Ls ++ L, c0 + mc, s0 + ms⟩,
      ⟨X.admits, X.cas, X.clock, X.frames, X.room, X.hears, X.method, X.code, (X.here.setHeapUsed s₂.heap s₂.slotsUsed).setVm hW'.alike, X.tail, State.WarmedH.trans X.warmed hW', X.limits, X.bytes, X.same.trans (hsame.setVm s.vm)⟩,
      ⟨g, mk, s₂, L, rfl, rfl, hqc, rfl, hL, rfl, rfl⟩, ?_⟩
    show Steps p.tables e below _ ((({ U with heap := s₂.heap, slotsUsed := s₂.slotsUsed } : State).setVm s₂.vm).setTop { g with pc := g.pc + len₂, stack := v.toList ++ g.stack })
    rw [← hs₂]
    exact hsteps
  · obtain ⟨e2, q2, q3, q4, q5, q6⟩ := id hsm
    have e3 : s₂ = ({ (U.calling g mk a).setFrames s₂.frames with heap := s₂.heap, slotsUsed := s₂.slotsUsed } : State).setVm s₂.vm := by
      have : s₂ = ({ s₂ with vm := (U.calling g mk a).vm } : State).setVm s₂.vm := rfl
      rw [e2] at this
      exact this
    have hf₂ : s₂.frames = .throwing q :: .java g :: U.frames.tail := hend
    have hW' : U.WarmedH s₂.vm := hW₂
    have hs₂ : s₂ = ((({ U with heap := s₂.heap, slotsUsed := s₂.slotsUsed } : State).setVm s₂.vm).setTop g).pushFrame (.throwing q) := by
      refine e3.trans ?_
      rw [hf₂, State.calling_eq h.top, State.setFrames_setFrames, State.pushFrame, State.frames_setTop _ hr', State.setTop_of_frames _ hr', State.setFrames_setFrames, hr]
      rfl
    have hsame : U.sameButNew ({ U with heap := s₂.heap, slotsUsed := s₂.slotsUsed } : State) L mc ms := by
      refine ⟨?_, q2, q3, q4, q5, q6⟩
      obtain ⟨t, ht, -⟩ := State.frames_cons hr
      show ({ U with heap := s₂.heap, slotsUsed := s₂.slotsUsed } : State) = { U.setFrames U.frames with heap := s₂.heap, slotsUsed := s₂.slotsUsed }
      rw [State.setFrames_self ht]
    subst hg
    refine Or.inr ⟨q, ⟨(({ U with heap := s₂.heap, slotsUsed := s₂.slotsUsed } : State).setVm s₂.vm), Ls ++ L, c0 + mc, s0 + ms⟩,
      ⟨X.admits, X.cas, X.clock, X.frames, X.room, X.hears, X.method, X.code, (X.here.setHeapUsed s₂.heap s₂.slotsUsed).setVm hW'.alike, X.tail, State.WarmedH.trans X.warmed hW', X.limits, X.bytes, X.same.trans (hsame.setVm s.vm)⟩,
      ⟨g, mk, s₂, L, E, ce, rfl, rfl, hx, hce, hcv, hcl, rfl, hL, rfl, rfl⟩, ?_⟩
    show Steps p.tables e below _ (((({ U with heap := s₂.heap, slotsUsed := s₂.slotsUsed } : State).setVm s₂.vm).setTop g).pushFrame (.throwing q))
    rw [← hs₂]
    exact hsteps
end Payer
section Calls
variable {p : Program} {l : Launch} {e : Env} {R : Room} {s : State} {m : MethodId} {args : Array Value} {below : List Frame} {meth : Method} {c : Code} {T : State} {locs : List Loc} {cells slots : Nat}
theorem vx_callV (X : Stand p l e R s m args below meth c T locs cells slots) (hexec : p.tables.exec = Jvm.exec) {own C : String} {index : Nat} {y : MethodName} {bytes : ByteArray} {maxL : Nat} {ret : Option FieldType}
    (hown : s.vm.findClass own = some m.cls) (hlink : (Cond.methodLink own index y).before args s = true) (hinst : (Cond.instanceMethod y).before args s = true) (hsel : (Cond.selects C y y).before args s = true)
    (hcode : (Cond.code y bytes maxL ret).before args s = true) (hy : y.cls ≠ "java/lang/invoke/MethodHandle" ∧ y.cls ≠ "java/lang/invoke/VarHandle")
    {W9 : Nat} {Pre : Pt → Array Value → Prop} {Post : Pt → Array Value → Option Value → Pt → Prop} {PostX : Pt → Array Value → Addr → Pt → Prop} (hK : vx_Back l R p e below s args y 3 W9 Pre Post PostX)
    {b : Addr} {cellB : Cell} (hcell : T.heap[b]? = some cellB) (hobj : cellB.vm.isStatics = false) (hcls : s.vm.findClass C = some cellB.cls)
    {g : JFrame} (hg : g.method = m) (hsize : g.locals.size = c.maxLocals) {argsL rest : List Value} (hlen : ∀ sig, parseMethodDescriptor y.desc = some sig → argsL.length = sig.parameters.length)
    (hstack : g.stack = argsL.reverse ++ .ref b :: rest) (hW : 2 * g.monitorRoom + (rest.map fun v => v.category).sum ≤ W9) (hdg : decode c.code g.pc = .ok (.invokevirtual index, 3))
    (hpre : ∀ vm₁, s.WarmedH vm₁ → Pre ⟨T.setVm vm₁, locs, cells, slots⟩ (Value.ref b :: argsL).toArray) :
    (∃ (v : Option Value) (vm₁ : Vm) (B : Pt), s.WarmedH vm₁ ∧ Stand p l e R s m args below meth c B.U B.locs B.cells B.slots ∧ Post ⟨T.setVm vm₁, locs, cells, slots⟩ (Value.ref b :: argsL).toArray v B ∧
      ∀ target, Steps p.tables e below (B.U.setTop { g with pc := g.pc + 3, stack := v.toList ++ rest }) target → Steps p.tables e below (T.setTop g) target) ∨
    (∃ (q : Addr) (vm₁ : Vm) (B : Pt), s.WarmedH vm₁ ∧ Stand p l e R s m args below meth c B.U B.locs B.cells B.slots ∧ PostX ⟨T.setVm vm₁, locs, cells, slots⟩ (Value.ref b :: argsL).toArray q B ∧
      Steps p.tables e below (T.setTop g) ((B.U.setTop { g with stack := rest }).pushFrame (.throwing q))) := by
  obtain ⟨mk, methM, hnamed, hmethM, hstM, habM⟩ := Cond.instanceMethod_spec hinst
  obtain ⟨methM', cM, hmethM', -, -, -, -, -, -, hsigM⟩ := Cond.code_spec hnamed hcode
  cases hmethM.symm.trans hmethM'
  obtain ⟨c2, r2, m2, q1, q2, q3, q4, kP, hkP, hkPi⟩ := Cond.selects_spec hsel
  cases hcls.symm.trans q1
  cases (State.methodFound?_of_named hnamed hy).symm.trans q2
  cases hnamed.symm.trans q3
  have hselP : selectMethod e.platform s.vm cellB.cls mk = .method mk := by rw [Launch.admits_selectMethod X.admits]; exact q4
  obtain ⟨vm₁, X₁, hstep₁⟩ := X.invokevirtual hexec hown hlink hnamed hmethM hstM hkP hkPi hy (a := b) (cell := cellB) hcell
    (fun z h => by rw [h] at hobj; cases hobj) hselP hmethM habM hkP hkPi (g := g) hg (argsL := argsL) (rest := rest) (hlen _ hsigM) hstack hdg
  rcases hK m meth c ⟨T.setVm vm₁, locs, cells, slots⟩ { g with stack := rest } (.invokevirtual index) mk (Value.ref b :: argsL).toArray X₁ hg hsize hdg hW (X₁.named hnamed) (hpre vm₁ X₁.warmed) with ⟨v, B, X', hpost, hsteps⟩ | ⟨q, B, X', hpost, hsteps⟩
  · exact Or.inl ⟨v, vm₁, B, X₁.warmed, X', hpost, fun target h => hstep₁ _ fun acts => by rw [doInvoke_state]; exact hsteps.trans h⟩
  · exact Or.inr ⟨q, vm₁, B, X₁.warmed, X', hpost, hstep₁ _ fun acts => by rw [doInvoke_state]; exact hsteps⟩
theorem vx_callS (X : Stand p l e R s m args below meth c T locs cells slots) (hexec : p.tables.exec = Jvm.exec) {own : String} {index : Nat} {y : MethodName} {bytes : ByteArray} {maxL : Nat} {ret : Option FieldType}
    (hown : s.vm.findClass own = some m.cls) (hlink : (Cond.methodLink own index y).before args s = true) (hstat : (Cond.static y).before args s = true) (hinit : (Cond.initialized y.cls).before args s = true)
    (hcode : (Cond.code y bytes maxL ret).before args s = true) (hy : y.cls ≠ "java/lang/invoke/MethodHandle" ∧ y.cls ≠ "java/lang/invoke/VarHandle")
    {W9 : Nat} {Pre : Pt → Array Value → Prop} {Post : Pt → Array Value → Option Value → Pt → Prop} {PostX : Pt → Array Value → Addr → Pt → Prop} (hK : vx_Back l R p e below s args y 3 W9 Pre Post PostX)
    {g : JFrame} (hg : g.method = m) (hsize : g.locals.size = c.maxLocals) {argsL rest : List Value} (hlen : ∀ sig, parseMethodDescriptor y.desc = some sig → argsL.length = sig.parameters.length)
    (hstack : g.stack = argsL.reverse ++ rest) (hW : 2 * g.monitorRoom + (rest.map fun v => v.category).sum ≤ W9) (hdg : decode c.code g.pc = .ok (.invokestatic index, 3))
    (hpre : ∀ vm₁, s.WarmedH vm₁ → Pre ⟨T.setVm vm₁, locs, cells, slots⟩ argsL.toArray) :
    (∃ (v : Option Value) (vm₁ : Vm) (B : Pt), s.WarmedH vm₁ ∧ Stand p l e R s m args below meth c B.U B.locs B.cells B.slots ∧ Post ⟨T.setVm vm₁, locs, cells, slots⟩ argsL.toArray v B ∧
      ∀ target, Steps p.tables e below (B.U.setTop { g with pc := g.pc + 3, stack := v.toList ++ rest }) target → Steps p.tables e below (T.setTop g) target) ∨
    (∃ (q : Addr) (vm₁ : Vm) (B : Pt), s.WarmedH vm₁ ∧ Stand p l e R s m args below meth c B.U B.locs B.cells B.slots ∧ PostX ⟨T.setVm vm₁, locs, cells, slots⟩ argsL.toArray q B ∧
      Steps p.tables e below (T.setTop g) ((B.U.setTop { g with stack := rest }).pushFrame (.throwing q))) := by
  obtain ⟨mk, hnamed⟩ := Cond.code_named hcode
  obtain ⟨methM, cM, hmethM, -, -, -, -, -, -, hsigM⟩ := Cond.code_spec hnamed hcode
  have hstatic : methM.isStatic = true := Cond.static_spec hnamed hmethM hstat
  obtain ⟨kP, hkP, -⟩ := className_of_methodNamed hnamed
  have hinitP : kP.init = .initialized := Cond.initialized_spec (findClass_of_methodNamed hnamed) hkP hinit
  obtain ⟨vm₁, X₁, hstep₁⟩ := X.invokestatic hexec hown hlink hnamed hmethM hstatic hkP hinitP hy (g := g) hg (argsL := argsL) (rest := rest) (hlen _ hsigM) hstack hdg
  rcases hK m meth c ⟨T.setVm vm₁, locs, cells, slots⟩ { g with stack := rest } (.invokestatic index) mk argsL.toArray X₁ hg hsize hdg hW (X₁.named hnamed) (hpre vm₁ X₁.warmed) with ⟨v, B, X', hpost, hsteps⟩ | ⟨q, B, X', hpost, hsteps⟩
  · exact Or.inl ⟨v, vm₁, B, X₁.warmed, X', hpost, fun target h => hstep₁ _ fun acts => by rw [doInvoke_state]; exact hsteps.trans h⟩
  · exact Or.inr ⟨q, vm₁, B, X₁.warmed, X', hpost, hstep₁ _ fun acts => by rw [doInvoke_state]; exact hsteps⟩
end Calls
theorem vx_cls {s : State} {T : State} {vm₁ : Vm} {E : String} {k : ClassId} (hW : s.WarmedH vm₁) (h : (T.setVm vm₁).vm.findClass E = some k) : s.vm.findClass E = some k := by
  have h1 : vm₁.findClass E = some k := h
  rw [hW.alike.findClass] at h1
  exact h1
/-- the method's frame g, with q thrown over it -/
def vx_W (p : Program) (l : Launch) (e : Env) (R : Room) (s : State) (m : MethodId) (args : Array Value) (below : List Frame) (meth : Method) (c : Code) (H : Heap) (locs : List Loc) (cells slots : Nat) (Q : State → Prop) (g : JFrame) (q : Addr) : Prop :=
  ∀ T : State, T.heap = H → Stand p l e R s m args below meth c T locs cells slots → ∃ t, Steps p.tables e below ((T.setTop g).pushFrame (.throwing q)) t ∧ Q t
def vx_Run (p : Program) (l : Launch) (e : Env) (R : Room) (s : State) (m : MethodId) (args : Array Value) (below : List Frame) (meth : Method) (c : Code) (H : Heap) (locs : List Loc) (cells slots mc ms : Nat) (g : JFrame) (rest : List Value) (Qa : State → Outcome → State → Prop) (XC : String → State → State → Prop) (free : Addr → Prop) : Prop :=
  ∀ T : State, T.heap = H → Stand p l e R s m args below meth c T locs cells slots →
    (∃ (v : Option Value) (st₀ t T' : State) (L : List Loc), st₀.heap = H ∧ Stand p l e R s m args below meth c T' (locs ++ L) (cells + mc) (slots + ms) ∧ (∀ q ∈ L, free q.base) ∧ T'.heap = t.heap ∧ T'.vm = t.vm ∧ Qa st₀ (.returned v) t ∧
      Goes p e below T g T' { g with pc := g.pc + 3, stack := v.toList ++ rest }) ∨
    (∃ (q : Addr) (st₀ t T' : State) (L : List Loc) (E : String) (ce : Cell), st₀.heap = H ∧ Stand p l e R s m args below meth c T' (locs ++ L) (cells + mc) (slots + ms) ∧ (∀ z ∈ L, free z.base) ∧ T'.heap = t.heap ∧ T'.vm = t.vm ∧ XC E st₀ t ∧ t.heap[q]? = some ce ∧ ce.vm = .none ∧ s.vm.findClass E = some ce.cls ∧
      Steps p.tables e below (T.setTop g) ((T'.setTop { g with stack := rest }).pushFrame (.throwing q)))
def vx_X {S : Type} (px : S → Prop) (B : String → S → State → Prop) (A : Nat → Prop) : String → State → State → Prop := fun E st t => ∃ u : S, px u ∧ B E u t ∧ va_F A st t
section Runs
variable {p : Program} {l : Launch} {e : Env} {R : Room} {s : State} {m : MethodId} {args : Array Value} {below : List Frame} {meth : Method} {c : Code} {H : Heap} {locs : List Loc} {cells slots : Nat}
variable {y : MethodName} {bytes cc : ByteArray} {maxL nL mc ms n index : Nat} {ret : Option FieldType} {ws : List Cond} {rm : Room} {Pc : Array Value → State → Prop} {Qc : Array Value → State → Outcome → State → Prop} {XC : String → State → State → Prop} {free : Addr → Prop} {Ts : List Cond} {own C : String} {b : Addr} {As rest : List Value} {g : JFrame}
theorem vx_callBack (cb : CallB R s args own index y bytes maxL ret ws rm mc ms n) (hM : vx_Met l y ws rm Pc Qc XC mc ms free) (hbl : FrameBlind Pc) : vx_Back l R p e below s args y 3 8 (PreOf R mc ms Pc) (PostOf Qc mc ms free) (vx_Post XC mc ms free) := by
  obtain ⟨hrc, hrs, hfr, hlo, hws, hcw, -, hini, -⟩ := cb
  exact vx_back (bytes := bytes) (maxL := maxL) (ret := ret) hM hbl hrc hrs hfr hlo hws hcw (fun a' U hW => word_at hW (Or.inl (by first | rfl | simp [Cond.onTables, Cond.keeps, Cond.steady])) hini)
theorem vx_runV (S : CallFix p m c cc nL s args Ts own) (hM : vx_Met l y ws rm Pc Qc XC mc ms free) (cw : CallW R s args own C index y bytes maxL ret ws rm mc ms n) (hp : PreV s H C b Pc As)
    (hg : g.method = m) (hn : As.length = n) (hsize : g.locals.size = nL) (hstack : g.stack = As.reverse ++ .ref b :: rest) (hW : 2 * g.monitorRoom + (rest.map fun v => v.category).sum ≤ 8) (hdg : decode cc g.pc = .ok (.invokevirtual index, 3)) (hf : cells + mc ≤ R.cells ∧ slots + ms ≤ R.slots) :
    vx_Run p l e R s m args below meth c H locs cells slots mc ms g rest (Qc (Value.ref b :: As).toArray) XC free := by
  have hK : vx_Back l R p e below s args y 3 8 (PreOf R mc ms Pc) (PostOf Qc mc ms free) (vx_Post XC mc ms free) := vx_callBack cw.1 hM hp.1
  obtain ⟨⟨-, -, -, -, -, -, hcode, -, hy, hlen, hl⟩, hin, hse⟩ := cw
  obtain ⟨hx, hb, hml, ho, -⟩ := S
  obtain ⟨-, ⟨cellB, hcB, hoB, hclB⟩, hPc⟩ := hp
  intro T hT X
  rcases vx_callV X hx (C := C) (bytes := bytes) (maxL := maxL) (ret := ret) ho hl hin hse hcode hy hK (by rw [hT]; exact hcB) hoB hclB hg (hsize.trans hml.symm) (argsL := As) (rest := rest) (fun sig h => hn.trans (hlen sig h)) hstack hW (by rw [hb]; exact hdg)
    (fun vm₁ hW₁ => ⟨hf.1, hf.2, hPc (T.setVm vm₁) hT hW₁⟩) with ⟨v, vm₁, ⟨U', l2, c2, s2⟩, hW₁, X', ⟨g', mk, t, L, e1, e2, hq, h1, hL, h2, h3⟩, st⟩ | ⟨q, vm₁, ⟨U', l2, c2, s2⟩, hW₁, X', ⟨g', mk, t, L, E, ce, e1, e2, hq, hce, hcv, hcl, h1, hL, h2, h3⟩, st⟩
  · dsimp only [Pt.U, Pt.locs, Pt.cells, Pt.slots] at X' e1 e2 h1 h2 h3 st
    subst h1; subst h2; subst h3
    exact Or.inl ⟨v, (T.setVm vm₁).calling g' mk (Value.ref b :: As).toArray, t, U', L, hT, X', hL, e1, e2, hq, st⟩
  · dsimp only [Pt.U, Pt.locs, Pt.cells, Pt.slots] at X' e1 e2 h1 h2 h3 st hcl
    subst h1; subst h2; subst h3
    exact Or.inr ⟨q, (T.setVm vm₁).calling g' mk (Value.ref b :: As).toArray, t, U', L, E, ce, hT, X', hL, e1, e2, hq, hce, hcv, vx_cls hW₁ hcl, st⟩
theorem vx_runS (S : CallFix p m c cc nL s args Ts own) (hM : vx_Met l y ws rm Pc Qc XC mc ms free) (cw : CallB R s args own index y bytes maxL ret ws rm mc ms n ∧ (Cond.static y).before args s = true) (hp : PreS s H Pc As)
    (hg : g.method = m) (hn : As.length = n) (hsize : g.locals.size = nL) (hstack : g.stack = As.reverse ++ rest) (hW : 2 * g.monitorRoom + (rest.map fun v => v.category).sum ≤ 8) (hdg : decode cc g.pc = .ok (.invokestatic index, 3)) (hf : cells + mc ≤ R.cells ∧ slots + ms ≤ R.slots) :
    vx_Run p l e R s m args below meth c H locs cells slots mc ms g rest (Qc As.toArray) XC free := by
  have hK : vx_Back l R p e below s args y 3 8 (PreOf R mc ms Pc) (PostOf Qc mc ms free) (vx_Post XC mc ms free) := vx_callBack cw.1 hM hp.1
  obtain ⟨⟨-, -, -, -, -, -, hcode, hini, hy, hlen, hl⟩, hstt⟩ := cw
  obtain ⟨hx, hb, hml, ho, -⟩ := S
  intro T hT X
  rcases vx_callS X hx (bytes := bytes) (maxL := maxL) (ret := ret) ho hl hstt hini hcode hy hK hg (hsize.trans hml.symm) (argsL := As) (rest := rest) (fun sig h => hn.trans (hlen sig h)) hstack hW (by rw [hb]; exact hdg)
    (fun vm₁ hW₁ => ⟨hf.1, hf.2, hp.2 (T.setVm vm₁) hT hW₁⟩) with ⟨v, vm₁, ⟨U', l2, c2, s2⟩, hW₁, X', ⟨g', mk, t, L, e1, e2, hq, h1, hL, h2, h3⟩, st⟩ | ⟨q, vm₁, ⟨U', l2, c2, s2⟩, hW₁, X', ⟨g', mk, t, L, E, ce, e1, e2, hq, hce, hcv, hcl, h1, hL, h2, h3⟩, st⟩
  · dsimp only [Pt.U, Pt.locs, Pt.cells, Pt.slots] at X' e1 e2 h1 h2 h3 st
    subst h1; subst h2; subst h3
    exact Or.inl ⟨v, (T.setVm vm₁).calling g' mk As.toArray, t, U', L, hT, X', hL, e1, e2, hq, st⟩
  · dsimp only [Pt.U, Pt.locs, Pt.cells, Pt.slots] at X' e1 e2 h1 h2 h3 st hcl
    subst h1; subst h2; subst h3
    exact Or.inr ⟨q, (T.setVm vm₁).calling g' mk As.toArray, t, U', L, E, ce, hT, X', hL, e1, e2, hq, hce, hcv, vx_cls hW₁ hcl, st⟩
end Runs
section Rows
variable {p : Program} {l : Launch} {e : Env} {R : Room} {s : State} {m : MethodId} {args : Array Value} {below : List Frame} {meth : Method} {c : Code} {H : Heap} {locs : List Loc} {cells slots : Nat} {Q : State → Prop}
variable {mc ms : Nat} {free : Addr → Prop} {A0 A1 : Nat → Prop} {H0 : Heap} {a : Array Value} {pc : Nat} {ls : Array Slot} {st0 rest : List Value}
theorem vx_keep {st₀ t T' : State} {L : List Loc} (h0 : st₀.heap = H) (e1 : T'.heap = t.heap) (hS : va_S A0 H0 H locs) (hA : ∀ q, q < H.size → A1 q → A0 q) (hf : ∀ q, free q → A0 q) (hL : ∀ q ∈ L, free q.base) (hF : va_F A1 st₀ t) :
    H.size ≤ T'.heap.size ∧ (∀ q : Nat, q < H.size → ¬ A1 q → T'.heap[q]? = H[q]?) ∧ va_S A0 H0 T'.heap (locs ++ L) := by
  obtain ⟨hz, hk⟩ := hF
  rw [h0] at hz hk
  exact ⟨by rw [e1]; exact hz, fun q h1 h2 => by rw [e1]; exact hk q h1 h2,
    ⟨Nat.le_trans hS.1 (by rw [e1]; exact hz), fun q h1 h2 => by rw [e1, hk q (Nat.lt_of_lt_of_le h1 hS.1) (fun z => h2 (hA q (Nat.lt_of_lt_of_le h1 hS.1) z))]; exact hS.2.1 q h1 h2, fun q hq => by
      rcases List.mem_append.mp hq with h | h
      · exact hS.2.2 q h
      · exact hf _ (hL q h)⟩⟩
theorem vx_calli {S SX : Type} {post : Int32 → S → Prop} {px : SX → Prop} {B : S → State → Prop} {BX : String → SX → State → Prop} {AX : Nat → Prop} (hr : vx_Run p l e R s m args below meth c H locs cells slots mc ms (F0 m pc ls st0) rest (va_Qi post B A1 a) (vx_X px BX AX) free) (hS : va_S A0 H0 H locs) (hA : ∀ q, q < H.size → A1 q → A0 q) (hf : ∀ q, free q → A0 q) (hAX : ∀ q, q < H.size → AX q → A0 q)
    (kx : ∀ (E : String) (ce : Cell) (q9 : Addr) (u : SX) (t : State) (H1 : Heap) (locs1 : List Loc), t.heap = H1 → s.vm.Alike t.vm → px u → BX E u t → H.size ≤ H1.size → (∀ q : Nat, q < H.size → ¬ AX q → H1[q]? = H[q]?) → va_S A0 H0 H1 locs1 → H1[q9]? = some ce → ce.vm = .none → s.vm.findClass E = some ce.cls → vx_W p l e R s m args below meth c H1 locs1 (cells + mc) (slots + ms) Q (F0 m pc ls rest) q9)
    (kk : ∀ (r : Int32) (u : S) (t : State) (H1 : Heap) (locs1 : List Loc), t.heap = H1 → s.vm.Alike t.vm → post r u → B u t → H.size ≤ H1.size → (∀ q : Nat, q < H.size → ¬ A1 q → H1[q]? = H[q]?) → va_S A0 H0 H1 locs1 → W p l e R s m args below meth c H1 locs1 (cells + mc) (slots + ms) Q (F0 m (pc + 3) ls (.int r :: rest))) : W p l e R s m args below meth c H locs cells slots Q (F0 m pc ls st0) := by
  intro T hT X
  rcases hr T hT X with ⟨v, st₀, t, T', L, h0, X', hL, e1, e2, ⟨⟨r, u, hv, hp, hb⟩, hF⟩, st⟩ | ⟨q, st₀, t, T', L, E, ce, h0, X', hL, e1, e2, ⟨u, hp, hb, hF⟩, hce, hcv, hcl, st⟩
  · cases hv
    obtain ⟨k1, k2, k3⟩ := vx_keep h0 e1 hS hA hf hL hF
    obtain ⟨t2, a1, b1⟩ := kk r u t T'.heap (locs ++ L) e1.symm (by rw [← e2]; exact X'.warmed.alike) hp hb k1 k2 k3 T' rfl X'
    exact ⟨t2, st t2 a1, b1⟩
  · obtain ⟨k1, k2, k3⟩ := vx_keep h0 e1 hS hAX hf hL hF
    obtain ⟨t2, a1, b1⟩ := kx E ce q u t T'.heap (locs ++ L) e1.symm (by rw [← e2]; exact X'.warmed.alike) hp hb k1 k2 k3 (by rw [e1]; exact hce) hcv hcl T' rfl X'
    exact ⟨t2, st.trans a1, b1⟩
theorem vx_calll {S SX : Type} {post : Int64 → S → Prop} {px : SX → Prop} {B : S → State → Prop} {BX : String → SX → State → Prop} {AX : Nat → Prop} (hr : vx_Run p l e R s m args below meth c H locs cells slots mc ms (F0 m pc ls st0) rest (va_Ql post B A1 a) (vx_X px BX AX) free) (hS : va_S A0 H0 H locs) (hA : ∀ q, q < H.size → A1 q → A0 q) (hf : ∀ q, free q → A0 q) (hAX : ∀ q, q < H.size → AX q → A0 q)
    (kx : ∀ (E : String) (ce : Cell) (q9 : Addr) (u : SX) (t : State) (H1 : Heap) (locs1 : List Loc), t.heap = H1 → s.vm.Alike t.vm → px u → BX E u t → H.size ≤ H1.size → (∀ q : Nat, q < H.size → ¬ AX q → H1[q]? = H[q]?) → va_S A0 H0 H1 locs1 → H1[q9]? = some ce → ce.vm = .none → s.vm.findClass E = some ce.cls → vx_W p l e R s m args below meth c H1 locs1 (cells + mc) (slots + ms) Q (F0 m pc ls rest) q9)
    (kk : ∀ (r : Int64) (u : S) (t : State) (H1 : Heap) (locs1 : List Loc), t.heap = H1 → s.vm.Alike t.vm → post r u → B u t → H.size ≤ H1.size → (∀ q : Nat, q < H.size → ¬ A1 q → H1[q]? = H[q]?) → va_S A0 H0 H1 locs1 → W p l e R s m args below meth c H1 locs1 (cells + mc) (slots + ms) Q (F0 m (pc + 3) ls (.long r :: rest))) : W p l e R s m args below meth c H locs cells slots Q (F0 m pc ls st0) := by
  intro T hT X
  rcases hr T hT X with ⟨v, st₀, t, T', L, h0, X', hL, e1, e2, ⟨⟨r, u, hv, hp, hb⟩, hF⟩, st⟩ | ⟨q, st₀, t, T', L, E, ce, h0, X', hL, e1, e2, ⟨u, hp, hb, hF⟩, hce, hcv, hcl, st⟩
  · cases hv
    obtain ⟨k1, k2, k3⟩ := vx_keep h0 e1 hS hA hf hL hF
    obtain ⟨t2, a1, b1⟩ := kk r u t T'.heap (locs ++ L) e1.symm (by rw [← e2]; exact X'.warmed.alike) hp hb k1 k2 k3 T' rfl X'
    exact ⟨t2, st t2 a1, b1⟩
  · obtain ⟨k1, k2, k3⟩ := vx_keep h0 e1 hS hAX hf hL hF
    obtain ⟨t2, a1, b1⟩ := kx E ce q u t T'.heap (locs ++ L) e1.symm (by rw [← e2]; exact X'.warmed.alike) hp hb k1 k2 k3 (by rw [e1]; exact hce) hcv hcl T' rfl X'
    exact ⟨t2, st.trans a1, b1⟩
theorem vx_callf {S SX : Type} {post : UInt32 → S → Prop} {px : SX → Prop} {B : S → State → Prop} {BX : String → SX → State → Prop} {AX : Nat → Prop} (hr : vx_Run p l e R s m args below meth c H locs cells slots mc ms (F0 m pc ls st0) rest (va_Qf post B A1 a) (vx_X px BX AX) free) (hS : va_S A0 H0 H locs) (hA : ∀ q, q < H.size → A1 q → A0 q) (hf : ∀ q, free q → A0 q) (hAX : ∀ q, q < H.size → AX q → A0 q)
    (kx : ∀ (E : String) (ce : Cell) (q9 : Addr) (u : SX) (t : State) (H1 : Heap) (locs1 : List Loc), t.heap = H1 → s.vm.Alike t.vm → px u → BX E u t → H.size ≤ H1.size → (∀ q : Nat, q < H.size → ¬ AX q → H1[q]? = H[q]?) → va_S A0 H0 H1 locs1 → H1[q9]? = some ce → ce.vm = .none → s.vm.findClass E = some ce.cls → vx_W p l e R s m args below meth c H1 locs1 (cells + mc) (slots + ms) Q (F0 m pc ls rest) q9)
    (kk : ∀ (r : UInt32) (u : S) (t : State) (H1 : Heap) (locs1 : List Loc), t.heap = H1 → s.vm.Alike t.vm → post r u → B u t → H.size ≤ H1.size → (∀ q : Nat, q < H.size → ¬ A1 q → H1[q]? = H[q]?) → va_S A0 H0 H1 locs1 → W p l e R s m args below meth c H1 locs1 (cells + mc) (slots + ms) Q (F0 m (pc + 3) ls (.float r :: rest))) : W p l e R s m args below meth c H locs cells slots Q (F0 m pc ls st0) := by
  intro T hT X
  rcases hr T hT X with ⟨v, st₀, t, T', L, h0, X', hL, e1, e2, ⟨⟨r, u, hv, hp, hb⟩, hF⟩, st⟩ | ⟨q, st₀, t, T', L, E, ce, h0, X', hL, e1, e2, ⟨u, hp, hb, hF⟩, hce, hcv, hcl, st⟩
  · cases hv
    obtain ⟨k1, k2, k3⟩ := vx_keep h0 e1 hS hA hf hL hF
    obtain ⟨t2, a1, b1⟩ := kk r u t T'.heap (locs ++ L) e1.symm (by rw [← e2]; exact X'.warmed.alike) hp hb k1 k2 k3 T' rfl X'
    exact ⟨t2, st t2 a1, b1⟩
  · obtain ⟨k1, k2, k3⟩ := vx_keep h0 e1 hS hAX hf hL hF
    obtain ⟨t2, a1, b1⟩ := kx E ce q u t T'.heap (locs ++ L) e1.symm (by rw [← e2]; exact X'.warmed.alike) hp hb k1 k2 k3 (by rw [e1]; exact hce) hcv hcl T' rfl X'
    exact ⟨t2, st.trans a1, b1⟩
theorem vx_calld {S SX : Type} {post : UInt64 → S → Prop} {px : SX → Prop} {B : S → State → Prop} {BX : String → SX → State → Prop} {AX : Nat → Prop} (hr : vx_Run p l e R s m args below meth c H locs cells slots mc ms (F0 m pc ls st0) rest (va_Qd post B A1 a) (vx_X px BX AX) free) (hS : va_S A0 H0 H locs) (hA : ∀ q, q < H.size → A1 q → A0 q) (hf : ∀ q, free q → A0 q) (hAX : ∀ q, q < H.size → AX q → A0 q)
    (kx : ∀ (E : String) (ce : Cell) (q9 : Addr) (u : SX) (t : State) (H1 : Heap) (locs1 : List Loc), t.heap = H1 → s.vm.Alike t.vm → px u → BX E u t → H.size ≤ H1.size → (∀ q : Nat, q < H.size → ¬ AX q → H1[q]? = H[q]?) → va_S A0 H0 H1 locs1 → H1[q9]? = some ce → ce.vm = .none → s.vm.findClass E = some ce.cls → vx_W p l e R s m args below meth c H1 locs1 (cells + mc) (slots + ms) Q (F0 m pc ls rest) q9)
    (kk : ∀ (r : UInt64) (u : S) (t : State) (H1 : Heap) (locs1 : List Loc), t.heap = H1 → s.vm.Alike t.vm → post r u → B u t → H.size ≤ H1.size → (∀ q : Nat, q < H.size → ¬ A1 q → H1[q]? = H[q]?) → va_S A0 H0 H1 locs1 → W p l e R s m args below meth c H1 locs1 (cells + mc) (slots + ms) Q (F0 m (pc + 3) ls (.double r :: rest))) : W p l e R s m args below meth c H locs cells slots Q (F0 m pc ls st0) := by
  intro T hT X
  rcases hr T hT X with ⟨v, st₀, t, T', L, h0, X', hL, e1, e2, ⟨⟨r, u, hv, hp, hb⟩, hF⟩, st⟩ | ⟨q, st₀, t, T', L, E, ce, h0, X', hL, e1, e2, ⟨u, hp, hb, hF⟩, hce, hcv, hcl, st⟩
  · cases hv
    obtain ⟨k1, k2, k3⟩ := vx_keep h0 e1 hS hA hf hL hF
    obtain ⟨t2, a1, b1⟩ := kk r u t T'.heap (locs ++ L) e1.symm (by rw [← e2]; exact X'.warmed.alike) hp hb k1 k2 k3 T' rfl X'
    exact ⟨t2, st t2 a1, b1⟩
  · obtain ⟨k1, k2, k3⟩ := vx_keep h0 e1 hS hAX hf hL hF
    obtain ⟨t2, a1, b1⟩ := kx E ce q u t T'.heap (locs ++ L) e1.symm (by rw [← e2]; exact X'.warmed.alike) hp hb k1 k2 k3 (by rw [e1]; exact hce) hcv hcl T' rfl X'
    exact ⟨t2, st.trans a1, b1⟩
theorem vx_callv {S SX : Type} {post : S → Prop} {px : SX → Prop} {B : S → State → Prop} {BX : String → SX → State → Prop} {AX : Nat → Prop} (hr : vx_Run p l e R s m args below meth c H locs cells slots mc ms (F0 m pc ls st0) rest (va_Qv post B A1 a) (vx_X px BX AX) free) (hS : va_S A0 H0 H locs) (hA : ∀ q, q < H.size → A1 q → A0 q) (hf : ∀ q, free q → A0 q) (hAX : ∀ q, q < H.size → AX q → A0 q)
    (kx : ∀ (E : String) (ce : Cell) (q9 : Addr) (u : SX) (t : State) (H1 : Heap) (locs1 : List Loc), t.heap = H1 → s.vm.Alike t.vm → px u → BX E u t → H.size ≤ H1.size → (∀ q : Nat, q < H.size → ¬ AX q → H1[q]? = H[q]?) → va_S A0 H0 H1 locs1 → H1[q9]? = some ce → ce.vm = .none → s.vm.findClass E = some ce.cls → vx_W p l e R s m args below meth c H1 locs1 (cells + mc) (slots + ms) Q (F0 m pc ls rest) q9)
    (kk : ∀ (u : S) (t : State) (H1 : Heap) (locs1 : List Loc), t.heap = H1 → s.vm.Alike t.vm → post u → B u t → H.size ≤ H1.size → (∀ q : Nat, q < H.size → ¬ A1 q → H1[q]? = H[q]?) → va_S A0 H0 H1 locs1 → W p l e R s m args below meth c H1 locs1 (cells + mc) (slots + ms) Q (F0 m (pc + 3) ls (rest))) : W p l e R s m args below meth c H locs cells slots Q (F0 m pc ls st0) := by
  intro T hT X
  rcases hr T hT X with ⟨v, st₀, t, T', L, h0, X', hL, e1, e2, ⟨⟨u, hv, hp, hb⟩, hF⟩, st⟩ | ⟨q, st₀, t, T', L, E, ce, h0, X', hL, e1, e2, ⟨u, hp, hb, hF⟩, hce, hcv, hcl, st⟩
  · cases hv
    obtain ⟨k1, k2, k3⟩ := vx_keep h0 e1 hS hA hf hL hF
    obtain ⟨t2, a1, b1⟩ := kk u t T'.heap (locs ++ L) e1.symm (by rw [← e2]; exact X'.warmed.alike) hp hb k1 k2 k3 T' rfl X'
    exact ⟨t2, st t2 a1, b1⟩
  · obtain ⟨k1, k2, k3⟩ := vx_keep h0 e1 hS hAX hf hL hF
    obtain ⟨t2, a1, b1⟩ := kx E ce q u t T'.heap (locs ++ L) e1.symm (by rw [← e2]; exact X'.warmed.alike) hp hb k1 k2 k3 (by rw [e1]; exact hce) hcv hcl T' rfl X'
    exact ⟨t2, st.trans a1, b1⟩
/-- caught by the row x of this method's table; the rows ahead don't take it -/
theorem vx_catch {own name : String} {E : String} {ce : Cell} {q : Addr} (hown : s.vm.findClass own = some m.cls) (pre : List ExceptionTableEntry) (x : ExceptionTableEntry) (suf : List ExceptionTableEntry) (hsplit : c.exceptionTable.toList = pre ++ x :: suf)
    (hpass : ∀ z ∈ pre, covers z pc = false ∨ (z.catchType ≠ 0 ∧ ∃ nm : String, (Cond.classLink own z.catchType nm).before args s = true ∧ va_Nc E nm s)) (hx : covers x pc = true) (h0 : x.catchType ≠ 0)
    (hlink : (Cond.classLink own x.catchType name).before args s = true) (hcast : (Cond.castable E name).before args s = true) (hcell : H[q]? = some ce) (hv : ce.vm = .none) (hcl : s.vm.findClass E = some ce.cls)
    (kk : W p l e R s m args below meth c H locs cells slots Q (F0 m x.handlerPc ls [.ref q])) : vx_W p l e R s m args below meth c H locs cells slots Q (F0 m pc ls rest) q := by
  intro T hT X
  have hpl : e.platform.magicAccessors = ({} : Platform).magicAccessors := by rw [X.admits.platform]
  obtain ⟨c3, c4, hc3, hc4, hasg⟩ := Cond.castable_spec hcast
  cases Option.some.inj (hc3.symm.trans hcl)
  obtain ⟨c5, hc5, hcl5⟩ := Cond.classLink_spec hown hlink e.platform hpl
  cases Option.some.inj (hc4.symm.trans hc5)
  obtain ⟨vm', X', st⟩ := X.thenCaughtThrough q (g := F0 m pc ls rest) rfl (Steps.refl _) (by rw [hT]; exact hcell) (by rw [hv]; rfl) (by obtain ⟨k9, h9, -⟩ := Vm.findClass_spec hcl; exact ⟨k9, h9⟩) pre x suf hsplit
    (fun z hz => by
      rcases hpass z hz with h | ⟨hz0, nm, hl1, hn1⟩
      · exact Or.inl h
      · obtain ⟨c6, hc6, hcl6⟩ := Cond.classLink_spec hown hl1 e.platform hpl
        obtain ⟨a8, b8, h1, h2, h3⟩ := hn1
        cases Option.some.inj (h1.symm.trans hcl)
        cases Option.some.inj (h2.symm.trans hc6)
        exact Or.inr ⟨hz0, _, hcl6, h3⟩) hx (Or.inr ⟨h0, c4, hcl5, hasg⟩)
  obtain ⟨t, a1, b1⟩ := kk (T.setVm vm') hT X'
  exact ⟨t, st.trans a1, b1⟩
end Rows
section Ends
variable {p : Program} {l : Launch} {e : Env} {R : Room} {s : State} {m : MethodId} {args : Array Value} {below : List Frame} {meth : Method} {c : Code} {H : Heap} {locs : List Loc} {cells slots : Nat} {Q : State → Prop}
variable {mc ms : Nat} {free : Addr → Prop} {A0 A1 : Nat → Prop} {H0 : Heap} {a : Array Value} {ls : Array Slot} {st0 rest : List Value}
variable {Qc : Array Value → State → Outcome → State → Prop} {XC : String → State → State → Prop}
/-- what a body that may throw owes at its end -/
def vx_MQ (below : List Frame) (Qc : Array Value → State → Outcome → State → Prop) (XC : String → State → State → Prop) (a : Array Value) (s : State) (mc ms : Nat) (free : Addr → Prop) : State → Prop := fun t =>
  ∃ o, t.status = .running ∧ Ended t below o ∧ vx_Q Qc XC mc ms free a s o t
theorem vx_ret {g : JFrame} {mc ms : Nat} (k : W p l e R s m args below meth c H locs cells slots (MQ below Qc args s mc ms free) g) : W p l e R s m args below meth c H locs cells slots (vx_MQ below Qc XC args s mc ms free) g := by
  intro T hT X
  obtain ⟨t, a1, o, b1, b2, b3, b4⟩ := k T hT X
  exact ⟨t, a1, o, b1, b2, Or.inl ⟨b3, b4⟩⟩
/-- not caught here: it goes on to the caller -/
theorem vx_widen {g : JFrame} {q : Addr} {k n : Nat} (h1 : cells ≤ k) (h2 : slots ≤ n) (kk : vx_W p l e R s m args below meth c H locs k n Q g q) : vx_W p l e R s m args below meth c H locs cells slots Q g q := fun T hT X => kk T hT (stand_widen X h1 h2)
theorem vx_out {pc : Nat} {E : String} {ce : Cell} {q : Addr} {mc ms : Nat} (hout : ∀ x ∈ c.exceptionTable.toList, covers x pc = false) (hlocks : meth.locks = false) (hcell : H[q]? = some ce) (hv : ce.vm = .none) (hcl : s.vm.findClass E = some ce.cls)
    (hx : ∀ t : State, t.heap = H → s.vm.Alike t.vm → XC E s t) (hf : ∀ z ∈ locs, free z.base) (hc : cells ≤ mc) (hs : slots ≤ ms) :
    vx_W p l e R s m args below meth c H locs cells slots (vx_MQ below Qc XC args s mc ms free) (F0 m pc ls rest) q := by
  intro T hT X
  obtain ⟨st1, hrun, hend, hW, hsm⟩ := X.leaveThrown q (g := F0 m pc ls rest) rfl rfl rfl hout hlocks
  have hcell9 : (T.setFrames (.throwing q :: below)).heap[q]? = some ce := by
    show T.heap[q]? = some ce
    rw [hT]; exact hcell
  exact ⟨_, st1, .threw q, hrun, hend, Or.inr ⟨q, rfl, E, ce, locs, hx _ hT hW.alike, hcell9, hv, hcl, hW, hsm.mono hc hs, hf⟩⟩
theorem vx_frame {U : State} {k n : Nat} (h : s.sameButNew ({ U with vm := s.vm } : State) locs k n) : s.heap.size ≤ U.heap.size ∧ ∀ q : Nat, q < s.heap.size → (∀ z ∈ locs, z.base ≠ q) → U.heap[q]? = s.heap[q]? := by
  obtain ⟨-, h2, -, -, -, h6⟩ := h
  refine ⟨h2, fun q hq hz => ?_⟩
  obtain ⟨c9, e1, e2, e3, e4⟩ := h6 q _ (Array.getElem?_eq_getElem hq)
  have hs : c9.slots = (s.heap[q]).slots := Array.ext_getElem? fun i => e4 i fun hm => hz _ hm rfl
  have h9 : c9 = s.heap[q] := by
    rw [hs] at e2
    exact e2
  have e5 : U.heap[q]? = some c9 := e1
  rw [e5, h9, Array.getElem?_eq_getElem hq]
/-- the words of a throw but the four that speak of the heap -/
def vx_no (w : Cond) : Bool := decide (w ≠ .isRef (.static Bundle.tN "UNASSIGNED_STACK" Bundle.steD)) && decide (w ≠ .isRef (.static Bundle.tN "SUPPRESSED_SENTINEL" Bundle.listD)) && decide (w ≠ .laysStatic Bundle.tN "UNASSIGNED_STACK" Bundle.steD) && decide (w ≠ .laysStatic Bundle.tN "SUPPRESSED_SENTINEL" Bundle.listD)
def vx_at0 (own : String) (ic : Nat) (X : String) (names : List String) : List Cond := (Bundle.ownAtoms0 own ic X names).filter vx_no
def vx_atS (own : String) (ic : Nat) (X : String) (names : List String) : List Cond := (Bundle.ownAtoms own ic X names).filter vx_no
/-- a word that the tables alone decide, or a good one -/
def vx_ot (w : Cond) : Bool := w.onTables || goodWord w
theorem vx_ot_at {args a' : Array Value} {s U : State} {w : Cond} (hW : s.WarmedH U.vm) (hvm : s.vm = U.vm) (hg : vx_ot w = true) (h : w.before args s = true) : w.before a' U = true := by
  simp only [vx_ot, Bool.or_eq_true] at hg
  rcases hg with hg | hg
  · exact va_tabs hg hvm h
  · exact word_at hW (good_of_word hg) h
/-- a list's words: the good ones out of the method's own list, the others by premises of their own -/
theorem vx_hat {args : Array Value} {s : State} {L B : List Cond} (h1 : ∀ w ∈ L.filter goodWord, w.before args s = true) (h2 : ∀ w ∈ L.filter (fun w => !goodWord w), w ∈ B) (h3 : ∀ w ∈ B, w.before args s = true) : ∀ w ∈ L, w.before args s = true := by
  intro w hw
  by_cases g : goodWord w = true
  · exact h1 w (List.mem_filter.mpr ⟨hw, g⟩)
  · refine h3 w (h2 w (List.mem_filter.mpr ⟨hw, ?_⟩))
    show (!goodWord w) = true
    cases hgw : goodWord w
    · rfl
    · exact absurd hgw g
theorem vx_c {args : Array Value} {s : State} {w : Cond} {B : List Cond} (h : w.before args s = true) (t : ∀ w ∈ B, w.before args s = true) : ∀ w' ∈ w :: B, w'.before args s = true := fun w' h' => (List.mem_cons.mp h').elim (fun e => by rw [e]; exact h) (t w')
theorem vx_n {args : Array Value} {s : State} : ∀ w ∈ ([] : List Cond), w.before args s = true := fun _ h => nomatch h
theorem vx_own {args : Array Value} {s : State} {L : List Cond} (h1 : ∀ w ∈ L.filter vx_no, w.before args s = true)
    (hU : (Cond.isRef (.static Bundle.tN "UNASSIGNED_STACK" Bundle.steD)).before args s = true) (hN : (Cond.isRef (.static Bundle.tN "SUPPRESSED_SENTINEL" Bundle.listD)).before args s = true)
    (lU : (Cond.laysStatic Bundle.tN "UNASSIGNED_STACK" Bundle.steD).before args s = true) (lN : (Cond.laysStatic Bundle.tN "SUPPRESSED_SENTINEL" Bundle.listD).before args s = true) : ∀ w ∈ L, w.before args s = true := by
  intro w hw
  by_cases e1 : w = .isRef (.static Bundle.tN "UNASSIGNED_STACK" Bundle.steD)
  · rw [e1]; exact hU
  · by_cases e2 : w = .isRef (.static Bundle.tN "SUPPRESSED_SENTINEL" Bundle.listD)
    · rw [e2]; exact hN
    · by_cases e3 : w = .laysStatic Bundle.tN "UNASSIGNED_STACK" Bundle.steD
      · rw [e3]; exact lU
      · by_cases e4 : w = .laysStatic Bundle.tN "SUPPRESSED_SENTINEL" Bundle.listD
        · rw [e4]; exact lN
        · exact h1 w (List.mem_filter.mpr ⟨hw, by unfold vx_no; rw [decide_eq_true e1, decide_eq_true e2, decide_eq_true e3, decide_eq_true e4]; rfl⟩)
/-- where a static field lies, its class's statics cell in H -/
def vx_L (C n d : String) (A : Nat → Prop) (U : State) (H : Heap) : Prop := ∃ (c : ClassId) (k : Class) (i : Nat) (f : Field) (a : Nat) (cell : Cell), U.vm.findClass C = some c ∧ U.fieldFound? C n d = some (c, k, i, f) ∧ f.isStatic = true ∧ k.statics = some a ∧ H[a]? = some cell ∧ cell.vm.isStatics = true ∧ cell.cls = c ∧ f.slot < cell.slots.size ∧ k.staticTypes[f.slot]? = some f.type ∧ ¬ A a
theorem vx_L.moved {C n d : String} {A : Nat → Prop} {u U : State} {H : Heap} (hvm : u.vm.Alike U.vm) (h : vx_L C n d A u H) : vx_L C n d A U H := by
  obtain ⟨c, k, i, f, a, cell, h1, h2, h3, h4, h5, h6, h7, h8, h9, h10⟩ := h
  obtain ⟨k', hi', he⟩ := State.fieldFound?_setVm hvm h2
  exact ⟨c, k', i, f, a, cell, by rw [hvm.findClass]; exact h1, hi', h3, by rw [he]; exact h4, h5, h6, h7, h8, by rw [he]; exact h9, h10⟩
theorem vx_L.kept {C n d : String} {A : Nat → Prop} {U : State} {H H1 : Heap} (h : vx_L C n d A U H) (hq : ∀ a : Nat, a < H.size → ¬ A a → H1[a]? = H[a]?) : vx_L C n d A U H1 := by
  obtain ⟨c, k, i, f, a, cell, h1, h2, h3, h4, h5, h6, h7, h8, h9, h10⟩ := h
  exact ⟨c, k, i, f, a, cell, h1, h2, h3, h4, by rw [hq a (Array.getElem?_eq_some_iff.mp h5).1 h10]; exact h5, h6, h7, h8, h9, h10⟩
theorem vx_L.narrow {C n d : String} {A B : Nat → Prop} {U : State} {H : Heap} (h : vx_L C n d A U H) (hAB : ∀ q, B q → A q) : vx_L C n d B U H := by
  obtain ⟨c, k, i, f, a, cell, h1, h2, h3, h4, h5, h6, h7, h8, h9, h10⟩ := h
  exact ⟨c, k, i, f, a, cell, h1, h2, h3, h4, h5, h6, h7, h8, h9, fun z => h10 (hAB _ z)⟩
theorem vx_L.word {C n d : String} {A : Nat → Prop} {s : State} {args : Array Value} (h : vx_L C n d A s s.heap) : (Cond.laysStatic C n d).before args s = true := by
  obtain ⟨c, k, i, f, a, cell, h1, h2, h3, h4, h5, h6, h7, h8, h9, -⟩ := h
  show (Cond.laysStatic C n d).holds args s none s [] = true
  exact Cond.laysStatic_of h1 h2 h3 h4 h5 h6 h7 h8 h9
/-- .. and what it holds: null or some reference -/
def vx_Zq (C n d : String) (A : Nat → Prop) (U : State) (H : Heap) : Prop := va_Zq C n d A U H ∧ vx_L C n d A U H
theorem vx_Zq.moved {C n d : String} {A : Nat → Prop} {u U : State} {H : Heap} (hvm : u.vm.Alike U.vm) (h : vx_Zq C n d A u H) : vx_Zq C n d A U H := ⟨va_Zq.moved hvm h.1, vx_L.moved hvm h.2⟩
theorem vx_Zq.kept {C n d : String} {A : Nat → Prop} {U : State} {H H1 : Heap} (h : vx_Zq C n d A U H) (hq : ∀ a : Nat, a < H.size → ¬ A a → H1[a]? = H[a]?) : vx_Zq C n d A U H1 := ⟨va_Zq.kept h.1 hq, vx_L.kept h.2 hq⟩
theorem vx_Zq.narrow {C n d : String} {A B : Nat → Prop} {U : State} {H : Heap} (h : vx_Zq C n d A U H) (hAB : ∀ q, B q → A q) : vx_Zq C n d B U H := ⟨va_Zq.narrow h.1 hAB, vx_L.narrow h.2 hAB⟩
theorem vx_Zqof {args : Array Value} {s : State} {C n d : String} {A : Nat → Prop} (hl : (Cond.laysStatic C n d).before args s = true) (hini : (Cond.initialized C).before args s = true) (h : (Cond.isRef (.static C n d)).before args s = true) (hA : ∀ a : Nat, a < s.heap.size → ¬ A a) : vx_Zq C n d A s s.heap := by
  refine ⟨va_Zqof hl hini h hA, ?_⟩
  obtain ⟨c, k, i, f, a, cell, h1, h2, h3, h4, h5, h6, h7, h8, h9⟩ := Cond.laysStatic_spec hl
  exact ⟨c, k, i, f, a, cell, h1, h2, h3, h4, h5, h6, h7, h8, h9, hA a (Array.getElem?_eq_some_iff.mp h5).1⟩
theorem vx_isRef {C n d : String} {v : Value} {A : Nat → Prop} {s : State} {args : Array Value} (h : va_Z C n d v A s s.heap) (hv : v.isRef = true) : (Cond.isRef (.static C n d)).before args s = true := by
  obtain ⟨cf, kf, fi, f, a, cell, h1, h2, h3, h4, h5, h6, h7, -⟩ := h
  have he : (Term.static C n d).eval args s none [] s = some v := by
    simp [Term.eval, State.fieldNamed?, h1, h2, h4, h5, h6, h7]
  simp only [Cond.before, Cond.holds, Cond.value, he]
  cases v <;> simp_all [Value.isRef]
theorem vx_isRefq {C n d : String} {A : Nat → Prop} {s : State} {args : Array Value} (h : va_Zq C n d A s s.heap) : (Cond.isRef (.static C n d)).before args s = true := by
  rcases h with h | ⟨t, h⟩
  · exact vx_isRef h rfl
  · exact vx_isRef h rfl
/-- the same frame, seen from here: as if the method were called anew in this heap -/
theorem vx_rebase {T : State} (X : Stand p l e R s m args below meth c T locs cells slots) {R' : Room} (hf : R'.frames ≤ R.frames) (hl : R'.locals ≤ R.locals) (hc : cells + R'.cells ≤ R.cells) (hs : slots + R'.slots ≤ R.slots) :
    Stand p l e R' ((T.setVm s.vm).setFrames (.invoking m args :: below)) m args below meth c T [] 0 0 := by
  have htop : (T.setVm s.vm).topJava?.isSome := X.here.top
  have hF : ((T.setVm s.vm).setFrames (.invoking m args :: below)).frames = .invoking m args :: below := State.frames_setFrames _ (State.cur_lt_of_top htop)
  obtain ⟨g₀, hg0⟩ := Option.isSome_iff_exists.mp htop
  obtain ⟨r, hr⟩ := State.topJava?_eq_some.mp hg0
  have hl9 : e.platform.stackLimits (T.setVm s.vm).me = e.platform.stackLimits s.me := X.limits
  have hb9 : (T.setVm s.vm).me.stackBytes = s.me.stackBytes := X.bytes
  refine ⟨X.admits, X.cas, X.clock, hF, ?_, X.hears, X.method, X.code, X.here, X.tail, X.warmed, ?_, ?_, ?_⟩
  · have h := X.room
    have hU : ((T.setVm s.vm).setFrames (.invoking m args :: below)).localsInUse = s.localsInUse := by
      rw [State.localsInUse_invoking hF (meth := meth) (c := c) X.method X.code, State.localsInUse_invoking X.frames X.method X.code]
    simp only [State.hasRoom, Bool.and_eq_true, decide_eq_true_eq] at h ⊢
    obtain ⟨⟨⟨⟨h1, h2, h3, h4, h5, h6⟩, h7⟩, h8⟩, h9⟩ := h
    rw [X.frames, List.length_cons] at h2 h3
    have q1 := X.heapSize
    have q2 := X.used
    simp only [hF, hU, List.length_cons, State.stackLimits_setFrames, State.stackBytes_setFrames, hl9, hb9]
    refine ⟨⟨⟨⟨by omega, by omega, by omega, by omega, by omega, h6⟩, ?_⟩, ?_⟩, X.book⟩
    · show T.heap.size + R'.cells ≤ e.platform.maxCells
      omega
    · show T.slotsUsed + R'.slots ≤ e.platform.maxSlots
      omega
  · rw [State.stackLimits_setFrames]; rfl
  · rw [State.stackBytes_setFrames]; rfl
  · refine ⟨?_, Nat.le_refl _, Nat.le_refl _, ?_, ?_, fun a c9 h9 => ⟨c9, h9, rfl, rfl, fun _ _ => rfl⟩⟩
    · obtain ⟨t, ht, -⟩ := State.frames_cons hr
      show T.setVm s.vm = { ((T.setVm s.vm).setFrames (.invoking m args :: below)).setFrames (T.setVm s.vm).frames with heap := T.heap, slotsUsed := T.slotsUsed }
      rw [State.setFrames_setFrames, State.setFrames_self ht]
      rfl
    · show T.slotsUsed = T.slotsUsed + ((T.heap.toList.drop T.heap.size).map (·.slots.size)).sum
      rw [List.drop_eq_nil_of_le (Nat.le_of_eq Array.length_toList)]
      rfl
    · show ((T.heap.toList.drop T.heap.size).map (·.slots.size)).sum ≤ 0
      rw [List.drop_eq_nil_of_le (Nat.le_of_eq Array.length_toList)]
      exact Nat.le_refl _
/-- 'throw new E()': new; dup; invokespecial; athrow -/
theorem vx_throw0 {cc : ByteArray} {pc : Nat} (hexec : p.tables.exec = Jvm.exec) (hb : c.code = cc) (hl : l.stackTraces = false) {own cls : String} {names : List String} {ik ic mc ms : Nat} {A : Nat → Prop}
    (hown : s.vm.findClass own = some m.cls) (hcls : Bundle.fit cls = true) (hnames : ∀ n ∈ names, Bundle.fit n = true)
    (hk : (Cond.classLink own ik cls).before args s = true) (hini : (Cond.initialized cls).before args s = true) (hat : ∀ w ∈ vx_at0 own ic cls names, w.before args s = true)
    (hgood : ∀ w ∈ Cond.classLink own ik cls :: Cond.initialized cls :: vx_at0 own ic cls names, vx_ot w = true)
    (hU : vx_Zq Bundle.tN "UNASSIGNED_STACK" Bundle.steD A s s.heap) (hN : vx_Zq Bundle.tN "SUPPRESSED_SENTINEL" Bundle.listD A s s.heap) (hS : va_S A s.heap H locs) (hsize : ls.size = c.maxLocals)
    (d0 : decode cc pc = .ok (.new ik, 3)) (d3 : decode cc (pc + 3) = .ok (.dup, 1)) (d4 : decode cc (pc + 4) = .ok (.invokespecial ic, 3)) (d7 : decode cc (pc + 7) = .ok (.athrow, 1))
    (hout : ∀ x ∈ c.exceptionTable.toList, covers x (pc + 7) = false)
    (hRframes : names.length + 3 < R.frames) (hRlocals : (rest.map fun v => v.category).sum + (13 * (names.length + 1) + 42) ≤ R.locals) (hRcells : cells + 1 ≤ R.cells) (hRslots : slots + 6 ≤ R.slots) (hlocks : meth.locks = false)
    (hx : ∀ t : State, s.vm.Alike t.vm → H.size ≤ t.heap.size → (∀ q : Nat, q < H.size → t.heap[q]? = H[q]?) → XC cls s t)
    (hf : ∀ z ∈ locs, free z.base) (hc : cells + 1 ≤ mc) (hs : slots + 6 ≤ ms) :
    W p l e R s m args below meth c H locs cells slots (vx_MQ below Qc XC args s mc ms free) (F0 m pc ls rest) := by
  intro T hT X
  have htr : e.platform.stackTraces = false := (show e.platform.stackTraces = l.stackTraces by rw [X.admits.platform]).trans hl
  have Y := vx_rebase X (R' := { frames := R.frames, locals := R.locals, cells := 1, slots := 6 }) (Nat.le_refl _) (Nat.le_refl _) hRcells hRslots
  obtain ⟨s', hA⟩ : ∃ z, z = (T.setVm s.vm).setFrames (.invoking m args :: below) := ⟨_, rfl⟩
  rw [← hA] at Y
  have hvm : s'.vm = s.vm := by rw [hA]; rfl
  have hhp : s'.heap = H := by rw [hA]; exact hT
  have hW0 : s.WarmedH s'.vm := by rw [hvm]; exact State.WarmedH.refl s
  have hat' : ∀ w ∈ vx_at0 own ic cls names, w.before args s' = true := fun w hw => vx_ot_at hW0 hvm.symm (hgood w (List.mem_cons_of_mem _ (List.mem_cons_of_mem _ hw))) (hat w hw)
  have hk' : (Cond.classLink own ik cls).before args s' = true := vx_ot_at hW0 hvm.symm (hgood _ List.mem_cons_self) hk
  have hini' : (Cond.initialized cls).before args s' = true := vx_ot_at hW0 hvm.symm (hgood _ (List.mem_cons_of_mem _ List.mem_cons_self)) hini
  have hU' : vx_Zq Bundle.tN "UNASSIGNED_STACK" Bundle.steD A s' s'.heap := by rw [hhp]; exact vx_Zq.moved hW0.alike (hU.kept hS.2.1)
  have hN' : vx_Zq Bundle.tN "SUPPRESSED_SENTINEL" Bundle.listD A s' s'.heap := by rw [hhp]; exact vx_Zq.moved hW0.alike (hN.kept hS.2.1)
  have h : ∀ w ∈ Bundle.ownAtoms0 own ic cls names, w.before args s' = true := vx_own hat' (vx_isRefq hU'.1) (vx_isRefq hN'.1) hU'.2.word hN'.2.word
  have hown' : s'.vm.findClass own = some m.cls := by rw [hvm]; exact hown
  have hins : (Cond.instantiable cls 6).before args s' = true := h _ (by simp [Bundle.ownAtoms0])
  obtain ⟨vm₁, cX, kX, hfX, hkX, -, -, X₁, st1⟩ := Y.newCold hexec (own := own) (C := cls) (index := ik) (n := 6) hown' hk' hins hini'
    (g := F0 m pc ls rest) rfl (by rw [hb]; exact d0) (Nat.le_refl _) (Nat.le_refl _)
  generalize hT1 : (T.setVm vm₁).pushCell { cls := cX, slots := kX.instanceTypes.map defaultValue, vm := .none } = T1 at X₁ st1
  have hcat : (Value.ref T.heap.size).category = 1 := rfl
  have hcellA : T1.heap[T.heap.size]? = some (freshCell cX kX) := by rw [← hT1]; exact State.heap_pushCell_size _ _
  have d3' : decode c.code (pc + 3) = .ok (.dup, 1) := by rw [hb]; exact d3
  obtain ⟨U, hsteps, hrun, hend, hW, hsame, ce, hce, hO⟩ := X₁.ctorThrow0 hexec htr (own := own) (cls := cls) (names := names) (ic := ic) hown' hcls hnames h (fun x hx => nomatch hx) hfX hkX hcellA (by rw [hhp, hT]; exact Nat.le_refl _)
    (g := { method := m, pc := pc + 4, locals := ls, stack := .ref T.heap.size :: .ref T.heap.size :: rest, locked := none }) rfl hsize rfl rfl (rest := rest) rfl
    (by rw [hb]; exact d4) (by rw [hb]; exact d7) hout hRframes (by simp only [List.map_cons, List.sum_cons, hcat]; omega) hlocks
  obtain ⟨f1, f2⟩ := vx_frame hsame
  rw [hhp] at f1 f2
  have hWs : s.WarmedH U.vm := State.WarmedH.trans hW0 hW
  have hcl : s.vm.findClass cls = some ce.cls := by
    have h9 := hO.cls
    rw [hvm] at h9
    exact h9
  have hall : s.sameButNew ({ U with vm := s.vm } : State) locs mc ms := by
    subst hA
    obtain ⟨e1, e2⟩ := hsame
    rw [State.setFrames_setFrames] at e1
    have h2 : (T.setVm s.vm).sameButNew ({ U with vm := s.vm } : State) [] (0 + 1) (0 + 6) := ⟨e1, e2⟩
    have h3 := X.same.trans h2
    rw [List.append_nil] at h3
    exact h3.mono hc hs
  refine ⟨U, ?_, .threw T.heap.size, hrun, hend, Or.inr ⟨T.heap.size, rfl, cls, ce, locs, hx U hWs.alike f1 (fun q hq => f2 q hq (fun z hz => nomatch hz)), hce, hO.vm, hcl, hWs, hall, hf⟩⟩
  refine st1 _ ?_
  show Steps p.tables e below (T1.setTop { method := m, pc := pc + 3, locals := ls, stack := .ref T.heap.size :: rest, locked := none }) _
  jvm_step X₁.here [X₁.here.top, hexec, d3', Value.category]
  exact hsteps
/-- 'throw new E("text")': new; dup; ldc; invokespecial; athrow -/
theorem vx_throwS {cc : ByteArray} {pc : Nat} (hexec : p.tables.exec = Jvm.exec) (hb : c.code = cc) (hl : l.stackTraces = false) {own cls text : String} {names : List String} {ik is ic mc ms sa : Nat} {A : Nat → Prop}
    (hown : s.vm.findClass own = some m.cls) (hcls : Bundle.fit cls = true) (hnames : ∀ n ∈ names, Bundle.fit n = true)
    (hk : (Cond.classLink own ik cls).before args s = true) (hini : (Cond.initialized cls).before args s = true) (hstr : vk_R own is text sa s) (hat : ∀ w ∈ vx_atS own ic cls names, w.before args s = true)
    (hgood : ∀ w ∈ Cond.classLink own ik cls :: Cond.initialized cls :: vx_atS own ic cls names, vx_ot w = true)
    (hU : vx_Zq Bundle.tN "UNASSIGNED_STACK" Bundle.steD A s s.heap) (hN : vx_Zq Bundle.tN "SUPPRESSED_SENTINEL" Bundle.listD A s s.heap) (hS : va_S A s.heap H locs) (hsize : ls.size = c.maxLocals)
    (d0 : decode cc pc = .ok (.new ik, 3)) (d3 : decode cc (pc + 3) = .ok (.dup, 1)) (d4 : decode cc (pc + 4) = .ok (.ldc is, 2)) (d6 : decode cc (pc + 6) = .ok (.invokespecial ic, 3)) (d9 : decode cc (pc + 9) = .ok (.athrow, 1))
    (hout : ∀ x ∈ c.exceptionTable.toList, covers x (pc + 9) = false)
    (hRframes : names.length + 3 < R.frames) (hRlocals : (rest.map fun v => v.category).sum + (13 * (names.length + 1) + 43) ≤ R.locals) (hRcells : cells + 1 ≤ R.cells) (hRslots : slots + 6 ≤ R.slots) (hlocks : meth.locks = false)
    (hx : ∀ t : State, s.vm.Alike t.vm → H.size ≤ t.heap.size → (∀ q : Nat, q < H.size → t.heap[q]? = H[q]?) → XC cls s t)
    (hf : ∀ z ∈ locs, free z.base) (hc : cells + 1 ≤ mc) (hs : slots + 6 ≤ ms) :
    W p l e R s m args below meth c H locs cells slots (vx_MQ below Qc XC args s mc ms free) (F0 m pc ls rest) := by
  intro T hT X
  have htr : e.platform.stackTraces = false := (show e.platform.stackTraces = l.stackTraces by rw [X.admits.platform]).trans hl
  have Y := vx_rebase X (R' := { frames := R.frames, locals := R.locals, cells := 1, slots := 6 }) (Nat.le_refl _) (Nat.le_refl _) hRcells hRslots
  obtain ⟨s', hA⟩ : ∃ z, z = (T.setVm s.vm).setFrames (.invoking m args :: below) := ⟨_, rfl⟩
  rw [← hA] at Y
  have hvm : s'.vm = s.vm := by rw [hA]; rfl
  have hhp : s'.heap = H := by rw [hA]; exact hT
  have hW0 : s.WarmedH s'.vm := by rw [hvm]; exact State.WarmedH.refl s
  have hat' : ∀ w ∈ vx_atS own ic cls names, w.before args s' = true := fun w hw => vx_ot_at hW0 hvm.symm (hgood w (List.mem_cons_of_mem _ (List.mem_cons_of_mem _ hw))) (hat w hw)
  have hk' : (Cond.classLink own ik cls).before args s' = true := vx_ot_at hW0 hvm.symm (hgood _ List.mem_cons_self) hk
  have hini' : (Cond.initialized cls).before args s' = true := vx_ot_at hW0 hvm.symm (hgood _ (List.mem_cons_of_mem _ List.mem_cons_self)) hini
  have hU' : vx_Zq Bundle.tN "UNASSIGNED_STACK" Bundle.steD A s' s'.heap := by rw [hhp]; exact vx_Zq.moved hW0.alike (hU.kept hS.2.1)
  have hN' : vx_Zq Bundle.tN "SUPPRESSED_SENTINEL" Bundle.listD A s' s'.heap := by rw [hhp]; exact vx_Zq.moved hW0.alike (hN.kept hS.2.1)
  have h : ∀ w ∈ Bundle.ownAtoms own ic cls names, w.before args s' = true := vx_own hat' (vx_isRefq hU'.1) (vx_isRefq hN'.1) hU'.2.word hN'.2.word
  have hown' : s'.vm.findClass own = some m.cls := by rw [hvm]; exact hown
  have hins : (Cond.instantiable cls 6).before args s' = true := h _ (by simp [Bundle.ownAtoms])
  obtain ⟨vm₁, cX, kX, hfX, hkX, -, -, X₁, st1⟩ := Y.newCold hexec (own := own) (C := cls) (index := ik) (n := 6) hown' hk' hins hini'
    (g := F0 m pc ls rest) rfl (by rw [hb]; exact d0) (Nat.le_refl _) (Nat.le_refl _)
  generalize hT1 : (T.setVm vm₁).pushCell { cls := cX, slots := kX.instanceTypes.map defaultValue, vm := .none } = T1 at X₁ st1
  have hcat : (Value.ref T.heap.size).category = 1 := rfl
  have hcellA : T1.heap[T.heap.size]? = some (freshCell cX kX) := by rw [← hT1]; exact State.heap_pushCell_size _ _
  have d3' : decode c.code (pc + 3) = .ok (.dup, 1) := by rw [hb]; exact d3
  have d4' : decode c.code (pc + 4) = .ok (.ldc is, 2) := by rw [hb]; exact d4
  have hstr' : vk_R own is text sa s' := vk_R.warm hW0 hstr
  obtain ⟨U, hsteps, hrun, hend, hW, hsame, ce, hce, hO⟩ := X₁.ctorThrowS hexec htr (own := own) (cls := cls) (names := names) (ic := ic) hown' hcls hnames h (fun x hx => nomatch hx) hfX hkX hcellA (by rw [hhp, hT]; exact Nat.le_refl _) (msg := .ref sa) rfl
    (g := { method := m, pc := pc + 6, locals := ls, stack := .ref sa :: .ref T.heap.size :: .ref T.heap.size :: rest, locked := none }) rfl hsize rfl rfl (rest := rest) rfl
    (by rw [hb]; exact d6) (by rw [hb]; exact d9) hout hRframes (by simp only [List.map_cons, List.sum_cons, hcat]; omega) hlocks
  obtain ⟨f1, f2⟩ := vx_frame hsame
  rw [hhp] at f1 f2
  have hWs : s.WarmedH U.vm := State.WarmedH.trans hW0 hW
  have hcl : s.vm.findClass cls = some ce.cls := by
    have h9 := hO.cls
    rw [hvm] at h9
    exact h9
  have hall : s.sameButNew ({ U with vm := s.vm } : State) locs mc ms := by
    subst hA
    obtain ⟨e1, e2⟩ := hsame
    rw [State.setFrames_setFrames] at e1
    have h2 : (T.setVm s.vm).sameButNew ({ U with vm := s.vm } : State) [] (0 + 1) (0 + 6) := ⟨e1, e2⟩
    have h3 := X.same.trans h2
    rw [List.append_nil] at h3
    exact h3.mono hc hs
  refine ⟨U, ?_, .threw T.heap.size, hrun, hend, Or.inr ⟨T.heap.size, rfl, cls, ce, locs, hx U hWs.alike f1 (fun q hq => f2 q hq (fun z hz => nomatch hz)), hce, hO.vm, hcl, hWs, hall, hf⟩⟩
  refine st1 _ ?_
  show Steps p.tables e below (T1.setTop { method := m, pc := pc + 3, locals := ls, stack := .ref T.heap.size :: rest, locked := none }) _
  jvm_step X₁.here [X₁.here.top, hexec, d3', Value.category]
  exact X₁.ldcString hexec (own := own) (text := text) (index := is) (a := sa) hown' hstr'.1 hstr'.2
    (g := { method := m, pc := pc + 4, locals := ls, stack := .ref T.heap.size :: .ref T.heap.size :: rest, locked := none }) rfl d4' _ hsteps
/-- 'throw new E("text")', the text by a wide index -/
theorem vx_throwSW {cc : ByteArray} {pc : Nat} (hexec : p.tables.exec = Jvm.exec) (hb : c.code = cc) (hl : l.stackTraces = false) {own cls text : String} {names : List String} {ik is ic mc ms sa : Nat} {A : Nat → Prop}
    (hown : s.vm.findClass own = some m.cls) (hcls : Bundle.fit cls = true) (hnames : ∀ n ∈ names, Bundle.fit n = true)
    (hk : (Cond.classLink own ik cls).before args s = true) (hini : (Cond.initialized cls).before args s = true) (hstr : vk_R own is text sa s) (hat : ∀ w ∈ vx_atS own ic cls names, w.before args s = true)
    (hgood : ∀ w ∈ Cond.classLink own ik cls :: Cond.initialized cls :: vx_atS own ic cls names, vx_ot w = true)
    (hU : vx_Zq Bundle.tN "UNASSIGNED_STACK" Bundle.steD A s s.heap) (hN : vx_Zq Bundle.tN "SUPPRESSED_SENTINEL" Bundle.listD A s s.heap) (hS : va_S A s.heap H locs) (hsize : ls.size = c.maxLocals)
    (d0 : decode cc pc = .ok (.new ik, 3)) (d3 : decode cc (pc + 3) = .ok (.dup, 1)) (d4 : decode cc (pc + 4) = .ok (.ldc_w is, 3)) (d7 : decode cc (pc + 7) = .ok (.invokespecial ic, 3)) (d10 : decode cc (pc + 10) = .ok (.athrow, 1))
    (hout : ∀ x ∈ c.exceptionTable.toList, covers x (pc + 10) = false)
    (hRframes : names.length + 3 < R.frames) (hRlocals : (rest.map fun v => v.category).sum + (13 * (names.length + 1) + 43) ≤ R.locals) (hRcells : cells + 1 ≤ R.cells) (hRslots : slots + 6 ≤ R.slots) (hlocks : meth.locks = false)
    (hx : ∀ t : State, s.vm.Alike t.vm → H.size ≤ t.heap.size → (∀ q : Nat, q < H.size → t.heap[q]? = H[q]?) → XC cls s t)
    (hf : ∀ z ∈ locs, free z.base) (hc : cells + 1 ≤ mc) (hs : slots + 6 ≤ ms) :
    W p l e R s m args below meth c H locs cells slots (vx_MQ below Qc XC args s mc ms free) (F0 m pc ls rest) := by
  intro T hT X
  have htr : e.platform.stackTraces = false := (show e.platform.stackTraces = l.stackTraces by rw [X.admits.platform]).trans hl
  have Y := vx_rebase X (R' := { frames := R.frames, locals := R.locals, cells := 1, slots := 6 }) (Nat.le_refl _) (Nat.le_refl _) hRcells hRslots
  obtain ⟨s', hA⟩ : ∃ z, z = (T.setVm s.vm).setFrames (.invoking m args :: below) := ⟨_, rfl⟩
  rw [← hA] at Y
  have hvm : s'.vm = s.vm := by rw [hA]; rfl
  have hhp : s'.heap = H := by rw [hA]; exact hT
  have hW0 : s.WarmedH s'.vm := by rw [hvm]; exact State.WarmedH.refl s
  have hat' : ∀ w ∈ vx_atS own ic cls names, w.before args s' = true := fun w hw => vx_ot_at hW0 hvm.symm (hgood w (List.mem_cons_of_mem _ (List.mem_cons_of_mem _ hw))) (hat w hw)
  have hk' : (Cond.classLink own ik cls).before args s' = true := vx_ot_at hW0 hvm.symm (hgood _ List.mem_cons_self) hk
  have hini' : (Cond.initialized cls).before args s' = true := vx_ot_at hW0 hvm.symm (hgood _ (List.mem_cons_of_mem _ List.mem_cons_self)) hini
  have hU' : vx_Zq Bundle.tN "UNASSIGNED_STACK" Bundle.steD A s' s'.heap := by rw [hhp]; exact vx_Zq.moved hW0.alike (hU.kept hS.2.1)
  have hN' : vx_Zq Bundle.tN "SUPPRESSED_SENTINEL" Bundle.listD A s' s'.heap := by rw [hhp]; exact vx_Zq.moved hW0.alike (hN.kept hS.2.1)
  have h : ∀ w ∈ Bundle.ownAtoms own ic cls names, w.before args s' = true := vx_own hat' (vx_isRefq hU'.1) (vx_isRefq hN'.1) hU'.2.word hN'.2.word
  have hown' : s'.vm.findClass own = some m.cls := by rw [hvm]; exact hown
  have hins : (Cond.instantiable cls 6).before args s' = true := h _ (by simp [Bundle.ownAtoms])
  obtain ⟨vm₁, cX, kX, hfX, hkX, -, -, X₁, st1⟩ := Y.newCold hexec (own := own) (C := cls) (index := ik) (n := 6) hown' hk' hins hini'
    (g := F0 m pc ls rest) rfl (by rw [hb]; exact d0) (Nat.le_refl _) (Nat.le_refl _)
  generalize hT1 : (T.setVm vm₁).pushCell { cls := cX, slots := kX.instanceTypes.map defaultValue, vm := .none } = T1 at X₁ st1
  have hcat : (Value.ref T.heap.size).category = 1 := rfl
  have hcellA : T1.heap[T.heap.size]? = some (freshCell cX kX) := by rw [← hT1]; exact State.heap_pushCell_size _ _
  have d3' : decode c.code (pc + 3) = .ok (.dup, 1) := by rw [hb]; exact d3
  have d4' : decode c.code (pc + 4) = .ok (.ldc_w is, 3) := by rw [hb]; exact d4
  have hstr' : vk_R own is text sa s' := vk_R.warm hW0 hstr
  obtain ⟨U, hsteps, hrun, hend, hW, hsame, ce, hce, hO⟩ := X₁.ctorThrowS hexec htr (own := own) (cls := cls) (names := names) (ic := ic) hown' hcls hnames h (fun x hx => nomatch hx) hfX hkX hcellA (by rw [hhp, hT]; exact Nat.le_refl _) (msg := .ref sa) rfl
    (g := { method := m, pc := pc + 7, locals := ls, stack := .ref sa :: .ref T.heap.size :: .ref T.heap.size :: rest, locked := none }) rfl hsize rfl rfl (rest := rest) rfl
    (by rw [hb]; exact d7) (by rw [hb]; exact d10) hout hRframes (by simp only [List.map_cons, List.sum_cons, hcat]; omega) hlocks
  obtain ⟨f1, f2⟩ := vx_frame hsame
  rw [hhp] at f1 f2
  have hWs : s.WarmedH U.vm := State.WarmedH.trans hW0 hW
  have hcl : s.vm.findClass cls = some ce.cls := by
    have h9 := hO.cls
    rw [hvm] at h9
    exact h9
  have hall : s.sameButNew ({ U with vm := s.vm } : State) locs mc ms := by
    subst hA
    obtain ⟨e1, e2⟩ := hsame
    rw [State.setFrames_setFrames] at e1
    have h2 : (T.setVm s.vm).sameButNew ({ U with vm := s.vm } : State) [] (0 + 1) (0 + 6) := ⟨e1, e2⟩
    have h3 := X.same.trans h2
    rw [List.append_nil] at h3
    exact h3.mono hc hs
  refine ⟨U, ?_, .threw T.heap.size, hrun, hend, Or.inr ⟨T.heap.size, rfl, cls, ce, locs, hx U hWs.alike f1 (fun q hq => f2 q hq (fun z hz => nomatch hz)), hce, hO.vm, hcl, hWs, hall, hf⟩⟩
  refine st1 _ ?_
  show Steps p.tables e below (T1.setTop { method := m, pc := pc + 3, locals := ls, stack := .ref T.heap.size :: rest, locked := none }) _
  jvm_step X₁.here [X₁.here.top, hexec, d3', Value.category]
  exact X₁.ldcStringW hexec (own := own) (text := text) (index := is) (a := sa) hown' hstr'.1 hstr'.2
    (g := { method := m, pc := pc + 4, locals := ls, stack := .ref T.heap.size :: .ref T.heap.size :: rest, locked := none }) rfl d4' _ hsteps
end Ends
section Bodies
variable {l : Launch}
theorem vx_ofW {y : MethodName} {ws ws' : List Cond} {rm : Room} {Pc : Array Value → State → Prop} {Qc : Array Value → State → Outcome → State → Prop} {XC : String → State → State → Prop} {mc ms : Nat} {free : Addr → Prop} {cc : ByteArray} {maxL : Nat} {ret : Option FieldType}
    (hy : plainName y.cls = true) (hw : ws = Cond.code y cc maxL ret :: ws')
    (body : ∀ p e s m args below meth c s₁, BodyLoose p l y (headSpec ws rm) cc maxL ret e s m args below meth c s₁ → c.maxLocals = maxL → (∀ x ∈ c.exceptionTable.toList, False) → Pc args s →
      W p l e (headSpec ws rm).room s m args below meth c s.heap [] 0 0 (vx_MQ below Qc XC args s mc ms free) (entryFrame m args maxL)) : vx_Met l y ws rm Pc Qc XC mc ms free := by
  refine MetFree.of_bodyS (code := cc) (maxLocals := maxL) (ret := ret) hy ?_ ?_
  · intro args s m h hn
    obtain ⟨meth, c, h1, h2, h3, h4, h5, h6, -, -⟩ := Cond.code_spec hn (atoms_spec (ws := ws) h _ (by rw [hw]; exact List.mem_cons_self))
    exact ⟨meth, c, h1, h2, h3, h4, h5, h6⟩
  · intro p e s m args below meth c s₁ B hml hP _
    have hh0 : s₁.heap = s.heap := by rw [B.state]; rfl
    have ht : ∀ x ∈ c.exceptionTable.toList, False := by
      obtain ⟨meth9, c9, h1, h2, -, -, -, -, h7, -⟩ := Cond.code_spec B.named (atoms_spec (ws := ws) B.pre _ (by rw [hw]; exact List.mem_cons_self))
      cases Option.some.inj (h1.symm.trans B.method)
      cases Option.some.inj (h2.symm.trans (Stand.of_body B).code)
      intro x hx
      rw [Array.isEmpty_iff.mp h7] at hx
      cases hx
    obtain ⟨t, a1, o, b1, b2, b3⟩ := body p e s m args below meth c s₁ B hml ht hP s₁ hh0 (Stand.of_body B)
    exact ⟨t, o, a1, b1, b2, b3⟩
/-- the table of a body with handlers -/
theorem vx_table {p : Program} {x y : MethodName} {S : Spec} {cc bytes : ByteArray} {maxL maxL' : Nat} {ret ret' : Option FieldType} {e : Env} {s s₁ : State} {m : MethodId} {args : Array Value} {below : List Frame} {meth : Method} {c : Code} {hh : List (Nat × Nat × Nat × Nat)}
    (B : BodyLoose p l y S cc maxL ret e s m args below meth c s₁) (h : (Cond.codeWith y bytes maxL' ret' hh).before args s = true) : c.exceptionTable.toList = tableOf hh := by
  obtain ⟨m9, meth9, c9, hn9, h1, h2, -, -, h6, -⟩ := Cond.codeWith_spec h
  cases Option.some.inj (hn9.symm.trans B.named)
  cases Option.some.inj (h1.symm.trans B.method)
  cases Option.some.inj (h2.symm.trans (Stand.of_body B).code)
  rw [← h6, table_eq]
end Bodies
end VXA
/-! ===== END ===== -/
/-! ===== BEGIN a static call of a method with an exception table ===== -/
section VXS
variable {p : Program} {l : Launch} {e : Env} {R : Room} {s : State} {m : MethodId} {args : Array Value} {below : List Frame} {meth : Method} {c : Code} {T : State} {H : Heap} {locs : List Loc} {cells slots : Nat}
abbrev vx_CSW (R : Room) (s : State) (args : Array Value) (own : String) (index : Nat) (y : MethodName) (bytes : ByteArray) (maxL : Nat) (ret : Option FieldType) (hh : List (Nat × Nat × Nat × Nat)) (ws : List Cond) (rm : Room) (mc ms n : Nat) : Prop :=
  (rm.cells = mc ∧ rm.slots = ms ∧ rm.frames + 1 ≤ R.frames ∧ 8 + (maxL + 11) + rm.locals ≤ R.locals ∧ (∀ w ∈ ws, ∀ (a' : Array Value) (U : State), s.WarmedH U.vm → w.before a' U = true) ∧ Cond.codeWith y bytes maxL ret hh ∈ ws) ∧
  (Cond.codeWith y bytes maxL ret hh).before args s = true ∧ (Cond.initialized y.cls).before args s = true ∧ (y.cls ≠ "java/lang/invoke/MethodHandle" ∧ y.cls ≠ "java/lang/invoke/VarHandle") ∧
  (∀ sig, parseMethodDescriptor y.desc = some sig → n = sig.parameters.length) ∧ (Cond.methodLink own index y).before args s = true ∧ (Cond.static y).before args s = true
theorem vx_cwSW {own : String} {index maxL mc ms : Nat} {y : MethodName} {bytes : ByteArray} {ret : Option FieldType} {hh : List (Nat × Nat × Nat × Nat)} {Ts ws ws' : List Cond} {rm : Room} (n : Nat) (ht : ∀ w ∈ Ts, w.before args s = true) (hT : GoodIn Ts (va_wsS own index y ws)) (hw : ws = Cond.codeWith y bytes maxL ret hh :: ws') (hrc : rm.cells = mc) (hrs : rm.slots = ms)
    (hd : y.cls ≠ "java/lang/invoke/MethodHandle" ∧ y.cls ≠ "java/lang/invoke/VarHandle" ∧ (parseMethodDescriptor y.desc).map (fun d => d.parameters.length) = some n) (hR : rm.frames + 1 ≤ R.frames ∧ 8 + (maxL + 11) + rm.locals ≤ R.locals) :
    vx_CSW R s args own index y bytes maxL ret hh ws rm mc ms n := by
  have ok : ∀ w ∈ va_wsS own index y ws, w.before args s = true := fun w h => ht w (hT w h).1
  have hG : GoodIn Ts ws := fun w h => hT w (by unfold va_wsS; exact List.mem_append_right _ h)
  have hc : Cond.codeWith y bytes maxL ret hh ∈ ws := by rw [hw]; exact List.mem_cons_self
  refine ⟨⟨hrc, hrs, hR.1, hR.2, pay_in ht hG, hc⟩, ht _ (hG _ hc).1, ok _ (by simp [va_wsS]), ⟨hd.1, hd.2.1⟩, fun sig h => ?_, ok _ (by simp [va_wsS]), ok _ (by simp [va_wsS])⟩
  have h2 := hd.2.2
  rw [h] at h2
  exact (Option.some.inj h2).symm
theorem vx_callSW (X : Stand p l e R s m args below meth c T locs cells slots) (hexec : p.tables.exec = Jvm.exec) {own : String} {index : Nat} {y : MethodName} {bytes : ByteArray} {maxL : Nat} {ret : Option FieldType} {hh : List (Nat × Nat × Nat × Nat)}
    (hown : s.vm.findClass own = some m.cls) (hlink : (Cond.methodLink own index y).before args s = true) (hstat : (Cond.static y).before args s = true) (hinit : (Cond.initialized y.cls).before args s = true)
    (hcode : (Cond.codeWith y bytes maxL ret hh).before args s = true) (hy : y.cls ≠ "java/lang/invoke/MethodHandle" ∧ y.cls ≠ "java/lang/invoke/VarHandle")
    {W9 : Nat} {Pre : Pt → Array Value → Prop} {Post : Pt → Array Value → Option Value → Pt → Prop} (hK : Back l R p e below s args y 3 W9 Pre Post)
    {g : JFrame} (hg : g.method = m) (hsize : g.locals.size = c.maxLocals) {argsL rest : List Value} (hlen : ∀ sig, parseMethodDescriptor y.desc = some sig → argsL.length = sig.parameters.length)
    (hstack : g.stack = argsL.reverse ++ rest) (hW : 2 * g.monitorRoom + (rest.map fun v => v.category).sum ≤ W9) (hdg : decode c.code g.pc = .ok (.invokestatic index, 3))
    (hpre : ∀ vm₁, s.WarmedH vm₁ → Pre ⟨T.setVm vm₁, locs, cells, slots⟩ argsL.toArray) :
    ∃ (v : Option Value) (vm₁ : Vm) (B : Pt), s.WarmedH vm₁ ∧ Stand p l e R s m args below meth c B.U B.locs B.cells B.slots ∧ Post ⟨T.setVm vm₁, locs, cells, slots⟩ argsL.toArray v B ∧
      ∀ target, Steps p.tables e below (B.U.setTop { g with pc := g.pc + 3, stack := v.toList ++ rest }) target → Steps p.tables e below (T.setTop g) target := by
  obtain ⟨mk, methM, cM, hnamed, hmethM, -, -, -, -, -, -, hsigM⟩ := Cond.codeWith_spec hcode
  have hstatic : methM.isStatic = true := Cond.static_spec hnamed hmethM hstat
  obtain ⟨kP, hkP, -⟩ := className_of_methodNamed hnamed
  have hinitP : kP.init = .initialized := Cond.initialized_spec (findClass_of_methodNamed hnamed) hkP hinit
  obtain ⟨vm₁, X₁, hstep₁⟩ := X.invokestatic hexec hown hlink hnamed hmethM hstatic hkP hinitP hy (g := g) hg (argsL := argsL) (rest := rest) (hlen _ hsigM) hstack hdg
  obtain ⟨v, B, X', hpost, hsteps⟩ := hK m meth c ⟨T.setVm vm₁, locs, cells, slots⟩ { g with stack := rest } (.invokestatic index) mk argsL.toArray X₁ hg hsize hdg hW (X₁.named hnamed) (hpre vm₁ X₁.warmed)
  exact ⟨v, vm₁, B, X₁.warmed, X', hpost, fun target h => hstep₁ _ fun acts => by rw [doInvoke_state]; exact hsteps.trans h⟩
theorem vx_runSW {y : MethodName} {bytes cc : ByteArray} {maxL nL mc ms n index : Nat} {ret : Option FieldType} {hh : List (Nat × Nat × Nat × Nat)} {ws : List Cond} {rm : Room} {Pc : Array Value → State → Prop} {Qc : Array Value → State → Outcome → State → Prop} {free : Addr → Prop} {Ts : List Cond} {own : String} {As rest : List Value} {g : JFrame}
    (S : CallFix p m c cc nL s args Ts own) (hM : Met l y ws rm Pc Qc mc ms free) (cw : vx_CSW R s args own index y bytes maxL ret hh ws rm mc ms n) (hp : PreS s H Pc As)
    (hg : g.method = m) (hn : As.length = n) (hsize : g.locals.size = nL) (hstack : g.stack = As.reverse ++ rest) (hW : 2 * g.monitorRoom + (rest.map fun v => v.category).sum ≤ 8) (hdg : decode cc g.pc = .ok (.invokestatic index, 3)) (hf : cells + mc ≤ R.cells ∧ slots + ms ≤ R.slots) :
    va_Run p l e R s m args below meth c H locs cells slots mc ms g rest (Qc As.toArray) (free) := by
  obtain ⟨⟨hrc, hrs, hfr, hlo, hws, hcw⟩, hcode, hini, hy, hlen, hl, hstt⟩ := cw
  have hK : Back l R p e below s args y 3 8 (PreOf R mc ms Pc) (PostOf Qc mc ms free) := va_backW (hh := hh) (bytes := bytes) (maxL := maxL) (ret := ret) hM hp.1 hrc hrs hfr hlo hws hcw (fun a' U hW => word_at hW (Or.inl (by first | rfl | simp [Cond.onTables, Cond.keeps, Cond.steady])) hini)
  obtain ⟨hx, hb, hml, ho, -⟩ := S
  intro T hT X
  obtain ⟨v, vm₁, ⟨U', l2, c2, s2⟩, hW₁, X', ⟨g', mk, t, L, e1, e2, hq, h1, hL, h2, h3⟩, st⟩ := vx_callSW X hx (hh := hh) (bytes := bytes) (maxL := maxL) (ret := ret) ho hl hstt hini hcode hy hK hg (hsize.trans hml.symm) (argsL := As) (rest := rest) (fun sig h => hn.trans (hlen sig h)) hstack hW (by rw [hb]; exact hdg)
    (fun vm₁ hW₁ => ⟨hf.1, hf.2, hp.2 (T.setVm vm₁) hT hW₁⟩)
  dsimp only [Pt.U, Pt.locs, Pt.cells, Pt.slots] at X' e1 e2 h1 h2 h3 st
  subst h1; subst h2; subst h3
  exact ⟨v, (T.setVm vm₁).calling g' mk As.toArray, t, U', L, hT, X', hL, e1, e2, hq, st⟩
/-- not caught here, past rows that name other classes: it goes on to the caller -/
theorem vx_outP {p : Program} {l : Launch} {e : Env} {R : Room} {s : State} {m : MethodId} {args : Array Value} {below : List Frame} {meth : Method} {c : Code} {H : Heap} {locs : List Loc} {cells slots : Nat} {free : Addr → Prop} {ls : Array Slot} {rest : List Value} {Qc : Array Value → State → Outcome → State → Prop} {XC : String → State → State → Prop}
    {pc : Nat} {own E : String} {ce : Cell} {q : Addr} {mc ms : Nat} (hown : s.vm.findClass own = some m.cls) (hlocks : meth.locks = false)
    (hpass : ∀ z ∈ c.exceptionTable.toList, covers z pc = false ∨ (z.catchType ≠ 0 ∧ ∃ nm : String, (Cond.classLink own z.catchType nm).before args s = true ∧ va_Nc E nm s)) (hcell : H[q]? = some ce) (hv : ce.vm = .none) (hcl : s.vm.findClass E = some ce.cls)
    (hx : ∀ t : State, t.heap = H → s.vm.Alike t.vm → XC E s t) (hf : ∀ z ∈ locs, free z.base) (hc : cells ≤ mc) (hs : slots ≤ ms) :
    vx_W p l e R s m args below meth c H locs cells slots (vx_MQ below Qc XC args s mc ms free) (F0 m pc ls rest) q := by
  intro T hT X
  have hpl : e.platform.magicAccessors = ({} : Platform).magicAccessors := by rw [X.admits.platform]
  obtain ⟨vm', hW', X', st⟩ := X.outThrough hlocks q (g := F0 m pc ls rest) rfl rfl rfl (cell := ce) (by rw [hT]; exact hcell) (by rw [hv]; rfl)
    (by obtain ⟨k9, h9, -⟩ := Vm.findClass_spec hcl; exact ⟨k9, h9⟩) (fun z hz => by
      rcases hpass z hz with h | ⟨hz0, nm, hl1, hn1⟩
      · exact Or.inl h
      · obtain ⟨c6, hc6, hcl6⟩ := Cond.classLink_spec hown hl1 e.platform hpl
        obtain ⟨a8, b8, h1, h2, h3⟩ := hn1
        cases Option.some.inj (h1.symm.trans hcl)
        cases Option.some.inj (h2.symm.trans hc6)
        exact Or.inr ⟨hz0, _, hcl6, h3⟩)
  obtain ⟨g₀, hfr⟩ := X'.frames_eq
  have hcell9 : ((T.setVm vm').setFrames (.throwing q :: below)).heap[q]? = some ce := by
    show T.heap[q]? = some ce
    rw [hT]; exact hcell
  have hend : Ended ((T.setVm vm').setFrames (.throwing q :: below)) below (.threw q) := State.frames_setFrames _ (State.cur_lt_of_frames hfr)
  refine ⟨(T.setVm vm').setFrames (.throwing q :: below), ?_, .threw q, X'.here.running, hend, Or.inr ⟨q, rfl, E, ce, locs, hx _ hT (X'.ends _).1.alike, hcell9, hv, hcl, (X'.ends _).1, (X'.ends _).2.mono hc hs, hf⟩⟩
  rw [X.pushThrowing_eq]
  exact st
/-- a thing of a world lies in the heap -/
theorem vx_lt {D : va_G} {cl : List vw_C} {ws : va_W} {H1 : Heap} (h : va_P D cl ws H1) {k : Nat} {q : Nat × va_E} (hk : ws[k]? = some q) : q.1 < H1.size := (h k q hk).lt
end VXS
/-! ===== END ===== -/
/-! ===== BEGIN methods with a table of their own: called by a name, returning or throwing ===== -/
section VXH
/-! vx_backW, vx_callVX, vx_callSX, vx_callVW, vx_runVW, vx_runVX, vx_runSX, vx_ofWH follow the same proofs as their sisters above (Free/Laws.lean, Shelf42/LK1.lean); vx_outP calls Shelf42/NT130.lean (outThrough). -/
section
variable {l : Launch} {R : Room} {p : Program} {e : Env} {below : List Frame} {s : State} {sargs : Array Value} {y : MethodName} {len W9 : Nat}
theorem vx_backW {ws : List Cond} {rm : Room} {Pc : Array Value → State → Prop} {Qc : Array Value → State → Outcome → State → Prop} {XC : String → State → State → Prop} {mc ms : Nat} {free : Addr → Prop} {bytes : ByteArray} {maxL : Nat} {ret : Option FieldType} {hh : List (Nat × Nat × Nat × Nat)}
    (hM : vx_Met l y ws rm Pc Qc XC mc ms free) (hblind : FrameBlind Pc) (hrc : rm.cells = mc) (hrs : rm.slots = ms)
    (hframes : rm.frames + 1 ≤ R.frames) (hlocals : W9 + (maxL + 11) + rm.locals ≤ R.locals)
    (hws : ∀ w ∈ ws, ∀ a' U, s.WarmedH U.vm → w.before a' U = true) (hcode : Cond.codeWith y bytes maxL ret hh ∈ ws) (hinit : ∀ a' U, s.WarmedH U.vm → (Cond.initialized y.cls).before a' U = true) :
    vx_Back l R p e below s sargs y len W9 (PreOf R mc ms Pc) (PostOf Qc mc ms free) (vx_Post XC mc ms free) := by
  intro m meth c A g ig mk a X hg hsize hdg hW hn hp
  have h1 : (headSpec ws rm).pre.before a A.U = true := atoms_intro fun w hw => hws w hw _ _ X.warmed
  have h2 : (Cond.codeWith y bytes maxL ret hh).before a A.U = true := hws _ hcode _ _ X.warmed
  have h3 : (Cond.initialized y.cls).before a A.U = true := hinit _ _ X.warmed
  have h4 : A.cells + (headSpec ws rm).room.cells ≤ R.cells := by rw [show (headSpec ws rm).room.cells = mc from hrc]; exact hp.1
  have h5 : A.slots + (headSpec ws rm).room.slots ≤ R.slots := by rw [show (headSpec ws rm).room.slots = ms from hrs]; exact hp.2.1
  have hPc : Pc a (A.U.calling g mk a) := hblind _ _ _ _ hp.2.2
  obtain ⟨U, Ls, c0, s0⟩ := A
  dsimp only [Pt.U, Pt.locs, Pt.cells, Pt.slots] at h1 h2 h3 h4 h5 X hn hPc ⊢
  obtain ⟨m9, methY, cY, hn9, hmY, hcY, -, hlY, -⟩ := Cond.codeWith_spec h2
  cases Option.some.inj (hn9.symm.trans hn)
  obtain ⟨kY, hkY, -⟩ := className_of_methodNamed hn
  have hinitY : kY.init = .initialized := Cond.initialized_spec (findClass_of_methodNamed hn) hkY h3
  have h : At U g.method c below := by rw [hg]; exact X.here
  have hlocals9 : W9 + (maxL + 11) + (headSpec ws rm).room.locals ≤ R.locals := hlocals
  have happ : (headSpec ws rm).appliesLoose y e.platform (U.calling g mk a) = true :=
    Spec.appliesLoose_calling (g := g) h hdg hn hkY hinitY
      (X.room_calling (g := g) (R' := (headSpec ws rm).room) hsize hmY hcY hframes (by rw [hlY]; omega) h4 h5) h1
  obtain ⟨mid, hmid⟩ := h.above
  have hfr : (U.setTop g).frames = (.java g :: mid) ++ below := by rw [State.frames_setTop' g h.top, hmid]; rfl
  obtain ⟨o, s₂, hsteps, -, hend, hq⟩ := Steps.callFree hM p X.admits X.cas X.clock (acts := []) hfr happ hPc trivial
  have hq' : vx_Q Qc XC mc ms free a (U.calling g mk a) o s₂ := hq
  rw [State.frames_setTop' g h.top] at hend
  obtain ⟨g₀, hg0⟩ := Option.isSome_iff_exists.mp h.top
  obtain ⟨r, hr⟩ := State.topJava?_eq_some.mp hg0
  have hr' : (({ U with heap := s₂.heap, slotsUsed := s₂.slotsUsed } : State).setVm s₂.vm).frames = .java g₀ :: r := hr
  rcases hq' with ⟨hqc, L, hfe, hL⟩ | ⟨q, rfl, E, ce, L, hx, hce, hcv, hcl, hW₂, hsm, hL⟩
  · obtain ⟨⟨v, rfl⟩, hW₂, e2, q2, q3, q4, q5, q6⟩ := id hfe
    have e3 : s₂ = ({ (U.calling g mk a).setFrames s₂.frames with heap := s₂.heap, slotsUsed := s₂.slotsUsed } : State).setVm s₂.vm := by
      have : s₂ = ({ s₂ with vm := (U.calling g mk a).vm } : State).setVm s₂.vm := rfl
      rw [e2] at this
      exact this
    obtain ⟨c₂, i₂, len₂, hc₂, hd₂, hf₂⟩ := hend
    have hW' : U.WarmedH s₂.vm := hW₂
    have hcc : c₂ = c := by
      have h1 : s₂.code? g.method = U.code? g.method := by
        rw [State.code?_eq, State.code?_eq, hW'.alike.method?]
      exact Option.some.inj (hc₂.symm.trans (h1.trans h.code))
    subst hcc
    have hlen : len₂ = len := by rw [hdg] at hd₂; cases hd₂; rfl
    subst hlen
    have hs₂ : s₂ = (({ U with heap := s₂.heap, slotsUsed := s₂.slotsUsed } : State).setVm s₂.vm).setTop { g with pc := g.pc + len₂, stack := v.toList ++ g.stack } := by
      refine e3.trans ?_
      rw [hf₂, State.calling_eq h.top, State.setFrames_setFrames, State.setTop_of_frames _ hr', hr]
      rfl
    have hsame : U.sameButNew ({ U with heap := s₂.heap, slotsUsed := s₂.slotsUsed } : State) L mc ms := by
      refine ⟨?_, q2, q3, q4, q5, q6⟩
      obtain ⟨t, ht, -⟩ := State.frames_cons hr
      show ({ U with heap := s₂.heap, slotsUsed := s₂.slotsUsed } : State) = { U.setFrames U.frames with heap := s₂.heap, slotsUsed := s₂.slotsUsed }
      rw [State.setFrames_self ht]
    subst hg
    refine Or.inl ⟨v, ⟨(({ U with heap := s₂.heap, slotsUsed := s₂.slotsUsed } : State).setVm s₂.vm), Ls ++ L, c0 + mc, s0 + ms⟩,
      ⟨X.admits, X.cas, X.clock, X.frames, X.room, X.hears, X.method, X.code, (X.here.setHeapUsed s₂.heap s₂.slotsUsed).setVm hW'.alike, X.tail, State.WarmedH.trans X.warmed hW', X.limits, X.bytes, X.same.trans (hsame.setVm s.vm)⟩,
      ⟨g, mk, s₂, L, rfl, rfl, hqc, rfl, hL, rfl, rfl⟩, ?_⟩
    show Steps p.tables e below _ ((({ U with heap := s₂.heap, slotsUsed := s₂.slotsUsed } : State).setVm s₂.vm).setTop { g with pc := g.pc + len₂, stack := v.toList ++ g.stack })
    rw [← hs₂]
    exact hsteps
  · obtain ⟨e2, q2, q3, q4, q5, q6⟩ := id hsm
    have e3 : s₂ = ({ (U.calling g mk a).setFrames s₂.frames with heap := s₂.heap, slotsUsed := s₂.slotsUsed } : State).setVm s₂.vm := by
      have : s₂ = ({ s₂ with vm := (U.calling g mk a).vm } : State).setVm s₂.vm := rfl
      rw [e2] at this
      exact this
    have hf₂ : s₂.frames = .throwing q :: .java g :: U.frames.tail := hend
    have hW' : U.WarmedH s₂.vm := hW₂
    have hs₂ : s₂ = ((({ U with heap := s₂.heap, slotsUsed := s₂.slotsUsed } : State).setVm s₂.vm).setTop g).pushFrame (.throwing q) := by
      refine e3.trans ?_
      rw [hf₂, State.calling_eq h.top, State.setFrames_setFrames, State.pushFrame, State.frames_setTop _ hr', State.setTop_of_frames _ hr', State.setFrames_setFrames, hr]
      rfl
    have hsame : U.sameButNew ({ U with heap := s₂.heap, slotsUsed := s₂.slotsUsed } : State) L mc ms := by
      refine ⟨?_, q2, q3, q4, q5, q6⟩
      obtain ⟨t, ht, -⟩ := State.frames_cons hr
      show ({ U with heap := s₂.heap, slotsUsed := s₂.slotsUsed } : State) = { U.setFrames U.frames with heap := s₂.heap, slotsUsed := s₂.slotsUsed }
      rw [State.setFrames_self ht]
    subst hg
    refine Or.inr ⟨q, ⟨(({ U with heap := s₂.heap, slotsUsed := s₂.slotsUsed } : State).setVm s₂.vm), Ls ++ L, c0 + mc, s0 + ms⟩,
      ⟨X.admits, X.cas, X.clock, X.frames, X.room, X.hears, X.method, X.code, (X.here.setHeapUsed s₂.heap s₂.slotsUsed).setVm hW'.alike, X.tail, State.WarmedH.trans X.warmed hW', X.limits, X.bytes, X.same.trans (hsame.setVm s.vm)⟩,
      ⟨g, mk, s₂, L, E, ce, rfl, rfl, hx, hce, hcv, hcl, rfl, hL, rfl, rfl⟩, ?_⟩
    show Steps p.tables e below _ (((({ U with heap := s₂.heap, slotsUsed := s₂.slotsUsed } : State).setVm s₂.vm).setTop g).pushFrame (.throwing q))
    rw [← hs₂]
    exact hsteps
end
variable {p : Program} {l : Launch} {e : Env} {R : Room} {s : State} {m : MethodId} {args : Array Value} {below : List Frame} {meth : Method} {c : Code} {T : State} {H : Heap} {locs : List Loc} {cells slots : Nat}
theorem vx_callVX (X : Stand p l e R s m args below meth c T locs cells slots) (hexec : p.tables.exec = Jvm.exec) {own C : String} {index : Nat} {y : MethodName} {bytes : ByteArray} {maxL : Nat} {ret : Option FieldType} {hh : List (Nat × Nat × Nat × Nat)}
    (hown : s.vm.findClass own = some m.cls) (hlink : (Cond.methodLink own index y).before args s = true) (hinst : (Cond.instanceMethod y).before args s = true) (hsel : (Cond.selects C y y).before args s = true)
    (hcode : (Cond.codeWith y bytes maxL ret hh).before args s = true) (hy : y.cls ≠ "java/lang/invoke/MethodHandle" ∧ y.cls ≠ "java/lang/invoke/VarHandle")
    {W9 : Nat} {Pre : Pt → Array Value → Prop} {Post : Pt → Array Value → Option Value → Pt → Prop} {PostX : Pt → Array Value → Addr → Pt → Prop} (hK : vx_Back l R p e below s args y 3 W9 Pre Post PostX)
    {b : Addr} {cellB : Cell} (hcell : T.heap[b]? = some cellB) (hobj : cellB.vm.isStatics = false) (hcls : s.vm.findClass C = some cellB.cls)
    {g : JFrame} (hg : g.method = m) (hsize : g.locals.size = c.maxLocals) {argsL rest : List Value} (hlen : ∀ sig, parseMethodDescriptor y.desc = some sig → argsL.length = sig.parameters.length)
    (hstack : g.stack = argsL.reverse ++ .ref b :: rest) (hW : 2 * g.monitorRoom + (rest.map fun v => v.category).sum ≤ W9) (hdg : decode c.code g.pc = .ok (.invokevirtual index, 3))
    (hpre : ∀ vm₁, s.WarmedH vm₁ → Pre ⟨T.setVm vm₁, locs, cells, slots⟩ (Value.ref b :: argsL).toArray) :
    (∃ (v : Option Value) (vm₁ : Vm) (B : Pt), s.WarmedH vm₁ ∧ Stand p l e R s m args below meth c B.U B.locs B.cells B.slots ∧ Post ⟨T.setVm vm₁, locs, cells, slots⟩ (Value.ref b :: argsL).toArray v B ∧
      ∀ target, Steps p.tables e below (B.U.setTop { g with pc := g.pc + 3, stack := v.toList ++ rest }) target → Steps p.tables e below (T.setTop g) target) ∨
    (∃ (q : Addr) (vm₁ : Vm) (B : Pt), s.WarmedH vm₁ ∧ Stand p l e R s m args below meth c B.U B.locs B.cells B.slots ∧ PostX ⟨T.setVm vm₁, locs, cells, slots⟩ (Value.ref b :: argsL).toArray q B ∧
      Steps p.tables e below (T.setTop g) ((B.U.setTop { g with stack := rest }).pushFrame (.throwing q))) := by
  obtain ⟨mk, methM, hnamed, hmethM, hstM, habM⟩ := Cond.instanceMethod_spec hinst
  obtain ⟨m8, methM', cM, hn8, hmethM', -, -, -, -, -, -, hsigM⟩ := Cond.codeWith_spec hcode
  cases Option.some.inj (hn8.symm.trans hnamed)
  cases hmethM.symm.trans hmethM'
  obtain ⟨c2, r2, m2, q1, q2, q3, q4, kP, hkP, hkPi⟩ := Cond.selects_spec hsel
  cases hcls.symm.trans q1
  cases (State.methodFound?_of_named hnamed hy).symm.trans q2
  cases hnamed.symm.trans q3
  have hselP : selectMethod e.platform s.vm cellB.cls mk = .method mk := by rw [Launch.admits_selectMethod X.admits]; exact q4
  obtain ⟨vm₁, X₁, hstep₁⟩ := X.invokevirtual hexec hown hlink hnamed hmethM hstM hkP hkPi hy (a := b) (cell := cellB) hcell
    (fun z h => by rw [h] at hobj; cases hobj) hselP hmethM habM hkP hkPi (g := g) hg (argsL := argsL) (rest := rest) (hlen _ hsigM) hstack hdg
  rcases hK m meth c ⟨T.setVm vm₁, locs, cells, slots⟩ { g with stack := rest } (.invokevirtual index) mk (Value.ref b :: argsL).toArray X₁ hg hsize hdg hW (X₁.named hnamed) (hpre vm₁ X₁.warmed) with ⟨v, B, X', hpost, hsteps⟩ | ⟨q, B, X', hpost, hsteps⟩
  · exact Or.inl ⟨v, vm₁, B, X₁.warmed, X', hpost, fun target h => hstep₁ _ fun acts => by rw [doInvoke_state]; exact hsteps.trans h⟩
  · exact Or.inr ⟨q, vm₁, B, X₁.warmed, X', hpost, hstep₁ _ fun acts => by rw [doInvoke_state]; exact hsteps⟩
theorem vx_callSX (X : Stand p l e R s m args below meth c T locs cells slots) (hexec : p.tables.exec = Jvm.exec) {own : String} {index : Nat} {y : MethodName} {bytes : ByteArray} {maxL : Nat} {ret : Option FieldType} {hh : List (Nat × Nat × Nat × Nat)}
    (hown : s.vm.findClass own = some m.cls) (hlink : (Cond.methodLink own index y).before args s = true) (hstat : (Cond.static y).before args s = true) (hinit : (Cond.initialized y.cls).before args s = true)
    (hcode : (Cond.codeWith y bytes maxL ret hh).before args s = true) (hy : y.cls ≠ "java/lang/invoke/MethodHandle" ∧ y.cls ≠ "java/lang/invoke/VarHandle")
    {W9 : Nat} {Pre : Pt → Array Value → Prop} {Post : Pt → Array Value → Option Value → Pt → Prop} {PostX : Pt → Array Value → Addr → Pt → Prop} (hK : vx_Back l R p e below s args y 3 W9 Pre Post PostX)
    {g : JFrame} (hg : g.method = m) (hsize : g.locals.size = c.maxLocals) {argsL rest : List Value} (hlen : ∀ sig, parseMethodDescriptor y.desc = some sig → argsL.length = sig.parameters.length)
    (hstack : g.stack = argsL.reverse ++ rest) (hW : 2 * g.monitorRoom + (rest.map fun v => v.category).sum ≤ W9) (hdg : decode c.code g.pc = .ok (.invokestatic index, 3))
    (hpre : ∀ vm₁, s.WarmedH vm₁ → Pre ⟨T.setVm vm₁, locs, cells, slots⟩ argsL.toArray) :
    (∃ (v : Option Value) (vm₁ : Vm) (B : Pt), s.WarmedH vm₁ ∧ Stand p l e R s m args below meth c B.U B.locs B.cells B.slots ∧ Post ⟨T.setVm vm₁, locs, cells, slots⟩ argsL.toArray v B ∧
      ∀ target, Steps p.tables e below (B.U.setTop { g with pc := g.pc + 3, stack := v.toList ++ rest }) target → Steps p.tables e below (T.setTop g) target) ∨
    (∃ (q : Addr) (vm₁ : Vm) (B : Pt), s.WarmedH vm₁ ∧ Stand p l e R s m args below meth c B.U B.locs B.cells B.slots ∧ PostX ⟨T.setVm vm₁, locs, cells, slots⟩ argsL.toArray q B ∧
      Steps p.tables e below (T.setTop g) ((B.U.setTop { g with stack := rest }).pushFrame (.throwing q))) := by
  obtain ⟨mk, methM, cM, hnamed, hmethM, -, -, -, -, -, -, hsigM⟩ := Cond.codeWith_spec hcode
  have hstatic : methM.isStatic = true := Cond.static_spec hnamed hmethM hstat
  obtain ⟨kP, hkP, -⟩ := className_of_methodNamed hnamed
  have hinitP : kP.init = .initialized := Cond.initialized_spec (findClass_of_methodNamed hnamed) hkP hinit
  obtain ⟨vm₁, X₁, hstep₁⟩ := X.invokestatic hexec hown hlink hnamed hmethM hstatic hkP hinitP hy (g := g) hg (argsL := argsL) (rest := rest) (hlen _ hsigM) hstack hdg
  rcases hK m meth c ⟨T.setVm vm₁, locs, cells, slots⟩ { g with stack := rest } (.invokestatic index) mk argsL.toArray X₁ hg hsize hdg hW (X₁.named hnamed) (hpre vm₁ X₁.warmed) with ⟨v, B, X', hpost, hsteps⟩ | ⟨q, B, X', hpost, hsteps⟩
  · exact Or.inl ⟨v, vm₁, B, X₁.warmed, X', hpost, fun target h => hstep₁ _ fun acts => by rw [doInvoke_state]; exact hsteps.trans h⟩
  · exact Or.inr ⟨q, vm₁, B, X₁.warmed, X', hpost, hstep₁ _ fun acts => by rw [doInvoke_state]; exact hsteps⟩
theorem vx_callVW (X : Stand p l e R s m args below meth c T locs cells slots) (hexec : p.tables.exec = Jvm.exec) {own C : String} {index : Nat} {y : MethodName} {bytes : ByteArray} {maxL : Nat} {ret : Option FieldType} {hh : List (Nat × Nat × Nat × Nat)}
    (hown : s.vm.findClass own = some m.cls) (hlink : (Cond.methodLink own index y).before args s = true) (hinst : (Cond.instanceMethod y).before args s = true) (hsel : (Cond.selects C y y).before args s = true)
    (hcode : (Cond.codeWith y bytes maxL ret hh).before args s = true) (hy : y.cls ≠ "java/lang/invoke/MethodHandle" ∧ y.cls ≠ "java/lang/invoke/VarHandle")
    {W9 : Nat} {Pre : Pt → Array Value → Prop} {Post : Pt → Array Value → Option Value → Pt → Prop} (hK : Back l R p e below s args y 3 W9 Pre Post)
    {b : Addr} {cellB : Cell} (hcell : T.heap[b]? = some cellB) (hobj : cellB.vm.isStatics = false) (hcls : s.vm.findClass C = some cellB.cls)
    {g : JFrame} (hg : g.method = m) (hsize : g.locals.size = c.maxLocals) {argsL rest : List Value} (hlen : ∀ sig, parseMethodDescriptor y.desc = some sig → argsL.length = sig.parameters.length)
    (hstack : g.stack = argsL.reverse ++ .ref b :: rest) (hW : 2 * g.monitorRoom + (rest.map fun v => v.category).sum ≤ W9) (hdg : decode c.code g.pc = .ok (.invokevirtual index, 3))
    (hpre : ∀ vm₁, s.WarmedH vm₁ → Pre ⟨T.setVm vm₁, locs, cells, slots⟩ (Value.ref b :: argsL).toArray) :
    ∃ (v : Option Value) (vm₁ : Vm) (B : Pt), s.WarmedH vm₁ ∧ Stand p l e R s m args below meth c B.U B.locs B.cells B.slots ∧ Post ⟨T.setVm vm₁, locs, cells, slots⟩ (Value.ref b :: argsL).toArray v B ∧
      ∀ target, Steps p.tables e below (B.U.setTop { g with pc := g.pc + 3, stack := v.toList ++ rest }) target → Steps p.tables e below (T.setTop g) target := by
  obtain ⟨mk, methM, hnamed, hmethM, hstM, habM⟩ := Cond.instanceMethod_spec hinst
  obtain ⟨m8, methM', cM, hn8, hmethM', -, -, -, -, -, -, hsigM⟩ := Cond.codeWith_spec hcode
  cases Option.some.inj (hn8.symm.trans hnamed)
  cases hmethM.symm.trans hmethM'
  obtain ⟨c2, r2, m2, q1, q2, q3, q4, kP, hkP, hkPi⟩ := Cond.selects_spec hsel
  cases hcls.symm.trans q1
  cases (State.methodFound?_of_named hnamed hy).symm.trans q2
  cases hnamed.symm.trans q3
  have hselP : selectMethod e.platform s.vm cellB.cls mk = .method mk := by rw [Launch.admits_selectMethod X.admits]; exact q4
  obtain ⟨vm₁, X₁, hstep₁⟩ := X.invokevirtual hexec hown hlink hnamed hmethM hstM hkP hkPi hy (a := b) (cell := cellB) hcell
    (fun z h => by rw [h] at hobj; cases hobj) hselP hmethM habM hkP hkPi (g := g) hg (argsL := argsL) (rest := rest) (hlen _ hsigM) hstack hdg
  obtain ⟨v, B, X', hpost, hsteps⟩ := hK m meth c ⟨T.setVm vm₁, locs, cells, slots⟩ { g with stack := rest } (.invokevirtual index) mk (Value.ref b :: argsL).toArray X₁ hg hsize hdg hW (X₁.named hnamed) (hpre vm₁ X₁.warmed)
  exact ⟨v, vm₁, B, X₁.warmed, X', hpost, fun target h => hstep₁ _ fun acts => by rw [doInvoke_state]; exact hsteps.trans h⟩
abbrev vx_CVW (R : Room) (s : State) (args : Array Value) (own C : String) (index : Nat) (y : MethodName) (bytes : ByteArray) (maxL : Nat) (ret : Option FieldType) (hh : List (Nat × Nat × Nat × Nat)) (ws : List Cond) (rm : Room) (mc ms n : Nat) : Prop :=
  (rm.cells = mc ∧ rm.slots = ms ∧ rm.frames + 1 ≤ R.frames ∧ 8 + (maxL + 11) + rm.locals ≤ R.locals ∧ (∀ w ∈ ws, ∀ (a' : Array Value) (U : State), s.WarmedH U.vm → w.before a' U = true) ∧ Cond.codeWith y bytes maxL ret hh ∈ ws) ∧
  (Cond.codeWith y bytes maxL ret hh).before args s = true ∧ (Cond.initialized y.cls).before args s = true ∧ (y.cls ≠ "java/lang/invoke/MethodHandle" ∧ y.cls ≠ "java/lang/invoke/VarHandle") ∧
  (∀ sig, parseMethodDescriptor y.desc = some sig → n = sig.parameters.length) ∧ (Cond.methodLink own index y).before args s = true ∧ (Cond.instanceMethod y).before args s = true ∧ (Cond.selects C y y).before args s = true
theorem vx_cwVW {own C : String} {index maxL mc ms : Nat} {y : MethodName} {bytes : ByteArray} {ret : Option FieldType} {hh : List (Nat × Nat × Nat × Nat)} {Ts ws ws' : List Cond} {rm : Room} (n : Nat) (ht : ∀ w ∈ Ts, w.before args s = true) (hT : GoodIn Ts (wsV own index C y ws)) (hw : ws = Cond.codeWith y bytes maxL ret hh :: ws') (hrc : rm.cells = mc) (hrs : rm.slots = ms)
    (hd : y.cls = C ∧ y.cls ≠ "java/lang/invoke/MethodHandle" ∧ y.cls ≠ "java/lang/invoke/VarHandle" ∧ (parseMethodDescriptor y.desc).map (fun d => d.parameters.length) = some n) (hR : rm.frames + 1 ≤ R.frames ∧ 8 + (maxL + 11) + rm.locals ≤ R.locals) :
    vx_CVW R s args own C index y bytes maxL ret hh ws rm mc ms n := by
  obtain ⟨hC, hd⟩ := hd
  subst hC
  have ok : ∀ w ∈ wsV own index y.cls y ws, w.before args s = true := fun w h => ht w (hT w h).1
  have hG : GoodIn Ts ws := fun w h => hT w (by unfold wsV; exact List.mem_append_right _ h)
  have hc : Cond.codeWith y bytes maxL ret hh ∈ ws := by rw [hw]; exact List.mem_cons_self
  refine ⟨⟨hrc, hrs, hR.1, hR.2, pay_in ht hG, hc⟩, ht _ (hG _ hc).1, ok _ (by simp [wsV]), ⟨hd.1, hd.2.1⟩, fun sig h => ?_, ok _ (by simp [wsV]), ok _ (by simp [wsV]), ok _ (by simp [wsV])⟩
  have h2 := hd.2.2
  rw [h] at h2
  exact (Option.some.inj h2).symm
theorem vx_runVW {y : MethodName} {bytes cc : ByteArray} {maxL nL mc ms n index : Nat} {ret : Option FieldType} {hh : List (Nat × Nat × Nat × Nat)} {ws : List Cond} {rm : Room} {Pc : Array Value → State → Prop} {Qc : Array Value → State → Outcome → State → Prop} {free : Addr → Prop} {Ts : List Cond} {own C : String} {b : Addr} {As rest : List Value} {g : JFrame}
    (S : CallFix p m c cc nL s args Ts own) (hM : Met l y ws rm Pc Qc mc ms free) (cw : vx_CVW R s args own C index y bytes maxL ret hh ws rm mc ms n) (hp : PreV s H C b Pc As)
    (hg : g.method = m) (hn : As.length = n) (hsize : g.locals.size = nL) (hstack : g.stack = As.reverse ++ .ref b :: rest) (hW : 2 * g.monitorRoom + (rest.map fun v => v.category).sum ≤ 8) (hdg : decode cc g.pc = .ok (.invokevirtual index, 3)) (hf : cells + mc ≤ R.cells ∧ slots + ms ≤ R.slots) :
    va_Run p l e R s m args below meth c H locs cells slots mc ms g rest (Qc (Value.ref b :: As).toArray) free := by
  obtain ⟨⟨hrc, hrs, hfr, hlo, hws, hcw⟩, hcode, hini, hy, hlen, hl, hin, hse⟩ := cw
  have hK : Back l R p e below s args y 3 8 (PreOf R mc ms Pc) (PostOf Qc mc ms free) := va_backW (hh := hh) (bytes := bytes) (maxL := maxL) (ret := ret) hM hp.1 hrc hrs hfr hlo hws hcw (fun a' U hW => word_at hW (Or.inl (by first | rfl | simp [Cond.onTables, Cond.keeps, Cond.steady])) hini)
  obtain ⟨hx, hb, hml, ho, -⟩ := S
  obtain ⟨-, ⟨cellB, hcB, hoB, hclB⟩, hPc⟩ := hp
  intro T hT X
  obtain ⟨v, vm₁, ⟨U', l2, c2, s2⟩, hW₁, X', ⟨g', mk, t, L, e1, e2, hq, h1, hL, h2, h3⟩, st⟩ := vx_callVW X hx (C := C) (hh := hh) (bytes := bytes) (maxL := maxL) (ret := ret) ho hl hin hse hcode hy hK (by rw [hT]; exact hcB) hoB hclB hg (hsize.trans hml.symm) (argsL := As) (rest := rest) (fun sig h => hn.trans (hlen sig h)) hstack hW (by rw [hb]; exact hdg)
    (fun vm₁ hW₁ => ⟨hf.1, hf.2, hPc (T.setVm vm₁) hT hW₁⟩)
  dsimp only [Pt.U, Pt.locs, Pt.cells, Pt.slots] at X' e1 e2 h1 h2 h3 st
  subst h1; subst h2; subst h3
  exact ⟨v, (T.setVm vm₁).calling g' mk (Value.ref b :: As).toArray, t, U', L, hT, X', hL, e1, e2, hq, st⟩
section
variable {y : MethodName} {bytes cc : ByteArray} {maxL nL mc ms n index : Nat} {ret : Option FieldType} {ws : List Cond} {rm : Room} {Pc : Array Value → State → Prop} {Qc : Array Value → State → Outcome → State → Prop} {XC : String → State → State → Prop} {free : Addr → Prop} {Ts : List Cond} {own C : String} {b : Addr} {As rest : List Value} {g : JFrame}
theorem vx_runVX {hh : List (Nat × Nat × Nat × Nat)} (S : CallFix p m c cc nL s args Ts own) (hM : vx_Met l y ws rm Pc Qc XC mc ms free) (cw : vx_CVW R s args own C index y bytes maxL ret hh ws rm mc ms n) (hp : PreV s H C b Pc As)
    (hg : g.method = m) (hn : As.length = n) (hsize : g.locals.size = nL) (hstack : g.stack = As.reverse ++ .ref b :: rest) (hW : 2 * g.monitorRoom + (rest.map fun v => v.category).sum ≤ 8) (hdg : decode cc g.pc = .ok (.invokevirtual index, 3)) (hf : cells + mc ≤ R.cells ∧ slots + ms ≤ R.slots) :
    vx_Run p l e R s m args below meth c H locs cells slots mc ms g rest (Qc (Value.ref b :: As).toArray) XC free := by
  obtain ⟨⟨hrc, hrs, hfr, hlo, hws, hcw⟩, hcode, hini, hy, hlen, hl, hin, hse⟩ := cw
  have hK : vx_Back l R p e below s args y 3 8 (PreOf R mc ms Pc) (PostOf Qc mc ms free) (vx_Post XC mc ms free) := vx_backW (hh := hh) (bytes := bytes) (maxL := maxL) (ret := ret) hM hp.1 hrc hrs hfr hlo hws hcw (fun a' U hW => word_at hW (Or.inl (by first | rfl | simp [Cond.onTables, Cond.keeps, Cond.steady])) hini)
  obtain ⟨hx, hb, hml, ho, -⟩ := S
  obtain ⟨-, ⟨cellB, hcB, hoB, hclB⟩, hPc⟩ := hp
  intro T hT X
  rcases vx_callVX X hx (C := C) (hh := hh) (bytes := bytes) (maxL := maxL) (ret := ret) ho hl hin hse hcode hy hK (by rw [hT]; exact hcB) hoB hclB hg (hsize.trans hml.symm) (argsL := As) (rest := rest) (fun sig h => hn.trans (hlen sig h)) hstack hW (by rw [hb]; exact hdg)
    (fun vm₁ hW₁ => ⟨hf.1, hf.2, hPc (T.setVm vm₁) hT hW₁⟩) with ⟨v, vm₁, ⟨U', l2, c2, s2⟩, hW₁, X', ⟨g', mk, t, L, e1, e2, hq, h1, hL, h2, h3⟩, st⟩ | ⟨q, vm₁, ⟨U', l2, c2, s2⟩, hW₁, X', ⟨g', mk, t, L, E, ce, e1, e2, hq, hce, hcv, hcl, h1, hL, h2, h3⟩, st⟩
  · dsimp only [Pt.U, Pt.locs, Pt.cells, Pt.slots] at X' e1 e2 h1 h2 h3 st
    subst h1; subst h2; subst h3
    exact Or.inl ⟨v, (T.setVm vm₁).calling g' mk (Value.ref b :: As).toArray, t, U', L, hT, X', hL, e1, e2, hq, st⟩
  · dsimp only [Pt.U, Pt.locs, Pt.cells, Pt.slots] at X' e1 e2 h1 h2 h3 st hcl
    subst h1; subst h2; subst h3
    exact Or.inr ⟨q, (T.setVm vm₁).calling g' mk (Value.ref b :: As).toArray, t, U', L, E, ce, hT, X', hL, e1, e2, hq, hce, hcv, vx_cls hW₁ hcl, st⟩
theorem vx_runSX {hh : List (Nat × Nat × Nat × Nat)} (S : CallFix p m c cc nL s args Ts own) (hM : vx_Met l y ws rm Pc Qc XC mc ms free) (cw : vx_CSW R s args own index y bytes maxL ret hh ws rm mc ms n) (hp : PreS s H Pc As)
    (hg : g.method = m) (hn : As.length = n) (hsize : g.locals.size = nL) (hstack : g.stack = As.reverse ++ rest) (hW : 2 * g.monitorRoom + (rest.map fun v => v.category).sum ≤ 8) (hdg : decode cc g.pc = .ok (.invokestatic index, 3)) (hf : cells + mc ≤ R.cells ∧ slots + ms ≤ R.slots) :
    vx_Run p l e R s m args below meth c H locs cells slots mc ms g rest (Qc As.toArray) XC free := by
  obtain ⟨⟨hrc, hrs, hfr, hlo, hws, hcw⟩, hcode, hini, hy, hlen, hl, hstt⟩ := cw
  have hK : vx_Back l R p e below s args y 3 8 (PreOf R mc ms Pc) (PostOf Qc mc ms free) (vx_Post XC mc ms free) := vx_backW (hh := hh) (bytes := bytes) (maxL := maxL) (ret := ret) hM hp.1 hrc hrs hfr hlo hws hcw (fun a' U hW => word_at hW (Or.inl (by first | rfl | simp [Cond.onTables, Cond.keeps, Cond.steady])) hini)
  obtain ⟨hx, hb, hml, ho, -⟩ := S
  intro T hT X
  rcases vx_callSX X hx (hh := hh) (bytes := bytes) (maxL := maxL) (ret := ret) ho hl hstt hini hcode hy hK hg (hsize.trans hml.symm) (argsL := As) (rest := rest) (fun sig h => hn.trans (hlen sig h)) hstack hW (by rw [hb]; exact hdg)
    (fun vm₁ hW₁ => ⟨hf.1, hf.2, hp.2 (T.setVm vm₁) hT hW₁⟩) with ⟨v, vm₁, ⟨U', l2, c2, s2⟩, hW₁, X', ⟨g', mk, t, L, e1, e2, hq, h1, hL, h2, h3⟩, st⟩ | ⟨q, vm₁, ⟨U', l2, c2, s2⟩, hW₁, X', ⟨g', mk, t, L, E, ce, e1, e2, hq, hce, hcv, hcl, h1, hL, h2, h3⟩, st⟩
  · dsimp only [Pt.U, Pt.locs, Pt.cells, Pt.slots] at X' e1 e2 h1 h2 h3 st
    subst h1; subst h2; subst h3
    exact Or.inl ⟨v, (T.setVm vm₁).calling g' mk As.toArray, t, U', L, hT, X', hL, e1, e2, hq, st⟩
  · dsimp only [Pt.U, Pt.locs, Pt.cells, Pt.slots] at X' e1 e2 h1 h2 h3 st hcl
    subst h1; subst h2; subst h3
    exact Or.inr ⟨q, (T.setVm vm₁).calling g' mk As.toArray, t, U', L, E, ce, hT, X', hL, e1, e2, hq, hce, hcv, vx_cls hW₁ hcl, st⟩
end
end VXH
theorem vx_ofWH {l : Launch} {y : MethodName} {ws ws' : List Cond} {rm : Room} {Pc : Array Value → State → Prop} {Qc : Array Value → State → Outcome → State → Prop} {XC : String → State → State → Prop} {mc ms : Nat} {free : Addr → Prop} {cc : ByteArray} {maxL : Nat} {ret : Option FieldType} {hh : List (Nat × Nat × Nat × Nat)}
    (hy : plainName y.cls = true) (hw : ws = Cond.codeWith y cc maxL ret hh :: ws')
    (body : ∀ p e s m args below meth c s₁, BodyLoose p l y (headSpec ws rm) cc maxL ret e s m args below meth c s₁ → c.maxLocals = maxL → Pc args s →
      W p l e (headSpec ws rm).room s m args below meth c s.heap [] 0 0 (vx_MQ below Qc XC args s mc ms free) (entryFrame m args maxL)) : vx_Met l y ws rm Pc Qc XC mc ms free := by
  refine MetFree.of_bodyS (code := cc) (maxLocals := maxL) (ret := ret) hy ?_ ?_
  · intro args s m h hn
    obtain ⟨m9, meth, c, hn9, h1, h2, h3, h4, -, h5, h6, -⟩ := Cond.codeWith_spec (atoms_spec (ws := ws) h _ (by rw [hw]; exact List.mem_cons_self))
    cases hn.symm.trans hn9
    exact ⟨meth, c, h1, h2, h3, h4, h5, h6⟩
  · intro p e s m args below meth c s₁ B hml hP _
    have hh0 : s₁.heap = s.heap := by rw [B.state]; rfl
    obtain ⟨t, a1, o, b1, b2, b3⟩ := body p e s m args below meth c s₁ B hml hP s₁ hh0 (Stand.of_body B)
    exact ⟨t, o, a1, b1, b2, b3⟩
/-! ===== END ===== -/

/-! the words of an exception whose constructor of a text names its parent's by another place of its pool (NoSuchElementException: 13) -/
def nx_code : ByteArray := ⟨#[0x2a, 0x2b, 0xb7, 0x00, 0x0d, 0xb1]⟩
def nx_chain (X : String) : List String → List Cond
  | [] => Bundle.passSAtoms X Bundle.tN 13 nx_code
  | Y :: r => Bundle.passSAtoms X Y 13 nx_code ++ Bundle.chainSAtoms Y r
def nx_own (own : String) (ic : Nat) (X : String) (names : List String) : List Cond :=
  Bundle.throwableAtoms ++ Bundle.throwableSAtoms ++ nx_chain X names ++
  [.methodLink own ic (Bundle.initS X), .instantiable X 6, .castable X X, .selects X Bundle.tFill0 Bundle.tFill0, .selects X Bundle.tFill Bundle.tFill,
   .lays X Bundle.tN "cause" "Ljava/lang/Throwable;", .lays X Bundle.tN "stackTrace" Bundle.steD, .lays X Bundle.tN "suppressedExceptions" Bundle.listD, .lays X Bundle.tN "detailMessage" "Ljava/lang/String;",
   .isRef (.static Bundle.tN "UNASSIGNED_STACK" Bundle.steD), .isRef (.static Bundle.tN "SUPPRESSED_SENTINEL" Bundle.listD),
   .fieldLink Bundle.tN 198 Bundle.tN "backtrace" "Ljava/lang/Object;", .lays Bundle.tN Bundle.tN "backtrace" "Ljava/lang/Object;", .lays X Bundle.tN "backtrace" "Ljava/lang/Object;"]
def nx_atS (own : String) (ic : Nat) (X : String) (names : List String) : List Cond := (nx_own own ic X names).filter vx_no
end
section
/-! ===== BEGIN printed: names, fields, word lists, decode rows ===== -/
def RX0 : String := "PaperMachine$Contract"
def TX0 : u_T := fun k => match k with
  | 0 => ("PaperMachine$Contract", "limit", "I", false)
  | 1 => ("PaperMachine$Contract", "firstPrice", "I", false)
  | _ => ("PaperMachine$Contract", "secondPrice", "I", false)
def tyX0 : Nat → FieldType := fun k => match k with
  | 0 => .int
  | 1 => .int
  | _ => .int
abbrev wsX00 : List Cond := u_ws RX0 TX0 3
theorem nmX0 : ∀ a, a < 3 → ∀ b, b < 3 → a ≠ b → (TX0 a).2.1 ≠ (TX0 b).2.1 := by decide +kernel
theorem tyX0_ok : ∀ k, k < 3 → parseFieldDescriptor (TX0 k).2.2.1 = some (tyX0 k) := by decide +kernel
abbrev cX0_init : ByteArray := prog_2_method_1_code
def yX0_init : MethodName := ⟨RX0, "<init>", "()V"⟩
abbrev cX0_cost : ByteArray := prog_2_method_2_code
def yX0_cost : MethodName := ⟨RX0, "cost", "(I)J"⟩
def RX1 : String := "PaperMachine$Cutter"
def TX1 : u_T := fun k => match k with
  | 0 => ("PaperMachine$Cutter", "best", "[I", true)
  | 1 => ("PaperMachine$Cutter", "trial", "[I", true)
  | 2 => ("PaperMachine$Cutter", "widths", "[I", true)
  | 3 => ("PaperMachine$Cutter", "mostRolls", "[I", true)
  | 4 => ("PaperMachine$Cutter", "widestFrom", "[I", true)
  | 5 => ("PaperMachine$Cutter", "fewest", "[I", true)
  | 6 => ("PaperMachine$Cutter", "room", "I", false)
  | _ => ("PaperMachine$Cutter", "bestSum", "I", false)
def tyX1 : Nat → FieldType := fun k => match k with
  | 0 => .array .int
  | 1 => .array .int
  | 2 => .array .int
  | 3 => .array .int
  | 4 => .array .int
  | 5 => .array .int
  | 6 => .int
  | _ => .int
abbrev wsX10 : List Cond := u_ws RX1 TX1 8
theorem nmX1 : ∀ a, a < 8 → ∀ b, b < 8 → a ≠ b → (TX1 a).2.1 ≠ (TX1 b).2.1 := by decide +kernel
theorem tyX1_ok : ∀ k, k < 8 → parseFieldDescriptor (TX1 k).2.2.1 = some (tyX1 k) := by decide +kernel
abbrev cX1_init : ByteArray := prog_3_method_1_code
def yX1_init : MethodName := ⟨RX1, "<init>", "()V"⟩
abbrev cX1_load : ByteArray := prog_3_method_2_code
def yX1_load : MethodName := ⟨RX1, "load", "(LPaperMachine$OrderBook;II)V"⟩
abbrev cX1_sumBySearch : ByteArray := prog_3_method_3_code
def yX1_sumBySearch : MethodName := ⟨RX1, "sumBySearch", "()I"⟩
abbrev cX1_search : ByteArray := prog_3_method_4_code
def yX1_search : MethodName := ⟨RX1, "search", "(LPaperMachine$Cutter;III)V"⟩
abbrev cX1_keepIfGreater : ByteArray := prog_3_method_5_code
def yX1_keepIfGreater : MethodName := ⟨RX1, "keepIfGreater", "(I)V"⟩
def RX2 : String := "PaperMachine$HourBook"
def TX2 : u_T := fun k => match k with
  | 0 => ("PaperMachine$HourBook", "kinds", "[C", true)
  | 1 => ("PaperMachine$HourBook", "freshIn", "[I", true)
  | 2 => ("PaperMachine$HourBook", "paperOut", "[I", true)
  | 3 => ("PaperMachine$HourBook", "lossOut", "[I", true)
  | 4 => ("PaperMachine$HourBook", "count", "I", false)
  | 5 => ("PaperMachine$HourBook", "freshSum", "J", false)
  | 6 => ("PaperMachine$HourBook", "paperSum", "J", false)
  | 7 => ("PaperMachine$HourBook", "lossSum", "J", false)
  | 8 => ("PaperMachine$HourBook", "massSum", "J", false)
  | 9 => ("PaperMachine$HourBook", "trimSum", "J", false)
  | _ => ("PaperMachine$HourBook", "paperHours", "I", false)
def tyX2 : Nat → FieldType := fun k => match k with
  | 0 => .array .char
  | 1 => .array .int
  | 2 => .array .int
  | 3 => .array .int
  | 4 => .int
  | 5 => .long
  | 6 => .long
  | 7 => .long
  | 8 => .long
  | 9 => .long
  | _ => .int
abbrev wsX20 : List Cond := u_ws RX2 TX2 11
theorem nmX2 : ∀ a, a < 11 → ∀ b, b < 11 → a ≠ b → (TX2 a).2.1 ≠ (TX2 b).2.1 := by decide +kernel
theorem tyX2_ok : ∀ k, k < 11 → parseFieldDescriptor (TX2 k).2.2.1 = some (tyX2 k) := by decide +kernel
abbrev cX2_init : ByteArray := prog_4_method_1_code
def yX2_init : MethodName := ⟨RX2, "<init>", "()V"⟩
abbrev cX2_has : ByteArray := prog_4_method_2_code
def yX2_has : MethodName := ⟨RX2, "has", "(I)Z"⟩
abbrev cX2_writeNothing : ByteArray := prog_4_method_3_code
def yX2_writeNothing : MethodName := ⟨RX2, "writeNothing", "()V"⟩
abbrev cX2_writeMade : ByteArray := prog_4_method_4_code
def yX2_writeMade : MethodName := ⟨RX2, "writeMade", "(CIII)V"⟩
abbrev cX2_writeTrim : ByteArray := prog_4_method_5_code
def yX2_writeTrim : MethodName := ⟨RX2, "writeTrim", "(I)V"⟩
abbrev cX2_fibreStillThere : ByteArray := prog_4_method_6_code
def yX2_fibreStillThere : MethodName := ⟨RX2, "fibreStillThere", "()I"⟩
def RX3 : String := "PaperMachine$OrderBook"
def TX3 : u_T := fun k => match k with
  | 0 => ("PaperMachine$OrderBook", "grades", "[I", true)
  | 1 => ("PaperMachine$OrderBook", "widths", "[I", true)
  | 2 => ("PaperMachine$OrderBook", "rollsCut", "[I", true)
  | 3 => ("PaperMachine$OrderBook", "lacking", "[I", true)
  | _ => ("PaperMachine$OrderBook", "count", "I", false)
def tyX3 : Nat → FieldType := fun k => match k with
  | 0 => .array .int
  | 1 => .array .int
  | 2 => .array .int
  | 3 => .array .int
  | _ => .int
abbrev wsX30 : List Cond := u_ws RX3 TX3 5
theorem nmX3 : ∀ a, a < 5 → ∀ b, b < 5 → a ≠ b → (TX3 a).2.1 ≠ (TX3 b).2.1 := by decide +kernel
theorem tyX3_ok : ∀ k, k < 5 → parseFieldDescriptor (TX3 k).2.2.1 = some (tyX3 k) := by decide +kernel
abbrev cX3_init : ByteArray := prog_5_method_1_code
def yX3_init : MethodName := ⟨RX3, "<init>", "()V"⟩
abbrev cX3_has : ByteArray := prog_5_method_2_code
def yX3_has : MethodName := ⟨RX3, "has", "(I)Z"⟩
abbrev cX3_isFull : ByteArray := prog_5_method_3_code
def yX3_isFull : MethodName := ⟨RX3, "isFull", "()Z"⟩
abbrev cX3_write : ByteArray := prog_5_method_4_code
def yX3_write : MethodName := ⟨RX3, "write", "(III)I"⟩
abbrev cX3_widestOpen : ByteArray := prog_5_method_5_code
def yX3_widestOpen : MethodName := ⟨RX3, "widestOpen", "()I"⟩
abbrev cX3_rollsLacking : ByteArray := prog_5_method_6_code
def yX3_rollsLacking : MethodName := ⟨RX3, "rollsLacking", "(I)I"⟩
abbrev cX3_takeOff : ByteArray := prog_5_method_8_code
def yX3_takeOff : MethodName := ⟨RX3, "takeOff", "([I)I"⟩
def RX4 : String := "PaperMachine"
def TX4 : u_T := fun k => match k with
  | 0 => ("PaperMachine", "weights", "[I", true)
  | 1 => ("PaperMachine", "gradeCount", "I", false)
  | 2 => ("PaperMachine", "machineWidth", "I", false)
  | 3 => ("PaperMachine", "machineGrade", "I", false)
  | 4 => ("PaperMachine", "changeHours", "I", false)
  | 5 => ("PaperMachine", "upward", "Z", false)
  | 6 => ("PaperMachine", "orderBook", "LPaperMachine$OrderBook;", true)
  | 7 => ("PaperMachine", "cutter", "LPaperMachine$Cutter;", true)
  | 8 => ("PaperMachine", "contract", "LPaperMachine$Contract;", true)
  | 9 => ("PaperMachine", "hourBook", "LPaperMachine$HourBook;", true)
  | 10 => ("PaperMachine", "share", "I", false)
  | 11 => ("PaperMachine", "brokeKept", "I", false)
  | _ => ("PaperMachine", "steamSum", "J", false)
def tyX4 : Nat → FieldType := fun k => match k with
  | 0 => .array .int
  | 1 => .int
  | 2 => .int
  | 3 => .int
  | 4 => .int
  | 5 => .boolean
  | 6 => .object "PaperMachine$OrderBook"
  | 7 => .object "PaperMachine$Cutter"
  | 8 => .object "PaperMachine$Contract"
  | 9 => .object "PaperMachine$HourBook"
  | 10 => .int
  | 11 => .int
  | _ => .long
abbrev wsX40 : List Cond := u_ws RX4 TX4 13
theorem nmX4 : ∀ a, a < 13 → ∀ b, b < 13 → a ≠ b → (TX4 a).2.1 ≠ (TX4 b).2.1 := by decide +kernel
theorem tyX4_ok : ∀ k, k < 13 → parseFieldDescriptor (TX4 k).2.2.1 = some (tyX4 k) := by decide +kernel
abbrev cX4_init : ByteArray := prog_1_method_1_code
def yX4_init : MethodName := ⟨RX4, "<init>", "()V"⟩
abbrev cX4_addGrade : ByteArray := prog_1_method_2_code
def yX4_addGrade : MethodName := ⟨RX4, "addGrade", "(I)I"⟩
abbrev cX4_setWidth : ByteArray := prog_1_method_3_code
def yX4_setWidth : MethodName := ⟨RX4, "setWidth", "(I)I"⟩
abbrev cX4_change : ByteArray := prog_1_method_4_code
def yX4_change : MethodName := ⟨RX4, "change", "(I)I"⟩
abbrev cX4_grade : ByteArray := prog_1_method_5_code
def yX4_grade : MethodName := ⟨RX4, "grade", "()I"⟩
abbrev cX4_changing : ByteArray := prog_1_method_6_code
def yX4_changing : MethodName := ⟨RX4, "changing", "()I"⟩
abbrev cX4_next : ByteArray := prog_1_method_7_code
def yX4_next : MethodName := ⟨RX4, "next", "()I"⟩
abbrev cX4_mass : ByteArray := prog_1_method_8_code
def yX4_mass : MethodName := ⟨RX4, "mass", "(I)I"⟩
abbrev cX4_order : ByteArray := prog_1_method_9_code
def yX4_order : MethodName := ⟨RX4, "order", "(III)I"⟩
abbrev cX4_cut : ByteArray := prog_1_method_11_code
def yX4_cut : MethodName := ⟨RX4, "cut", "(I)I"⟩
abbrev cX4_lacks : ByteArray := prog_1_method_12_code
def yX4_lacks : MethodName := ⟨RX4, "lacks", "(I)I"⟩
abbrev cX4_trim : ByteArray := prog_1_method_13_code
def yX4_trim : MethodName := ⟨RX4, "trim", "(I)I"⟩
abbrev cX4_setShare : ByteArray := prog_1_method_17_code
def yX4_setShare : MethodName := ⟨RX4, "setShare", "(I)I"⟩
abbrev cX4_setContract : ByteArray := prog_1_method_18_code
def yX4_setContract : MethodName := ⟨RX4, "setContract", "(III)I"⟩
abbrev cX4_pass : ByteArray := prog_1_method_19_code
def yX4_pass : MethodName := ⟨RX4, "pass", "(I)I"⟩
abbrev cX4_hours : ByteArray := prog_1_method_20_code
def yX4_hours : MethodName := ⟨RX4, "hours", "()I"⟩
abbrev cX4_broke : ByteArray := prog_1_method_21_code
def yX4_broke : MethodName := ⟨RX4, "broke", "()I"⟩
abbrev cX4_brokeByHours : ByteArray := prog_1_method_22_code
def yX4_brokeByHours : MethodName := ⟨RX4, "brokeByHours", "()I"⟩
abbrev cX4_fresh : ByteArray := prog_1_method_23_code
def yX4_fresh : MethodName := ⟨RX4, "fresh", "()J"⟩
abbrev cX4_paper : ByteArray := prog_1_method_24_code
def yX4_paper : MethodName := ⟨RX4, "paper", "()J"⟩
abbrev cX4_lost : ByteArray := prog_1_method_25_code
def yX4_lost : MethodName := ⟨RX4, "lost", "()J"⟩
abbrev cX4_made : ByteArray := prog_1_method_26_code
def yX4_made : MethodName := ⟨RX4, "made", "(I)C"⟩
abbrev cX4_steamCost : ByteArray := prog_1_method_27_code
def yX4_steamCost : MethodName := ⟨RX4, "steamCost", "()J"⟩
abbrev cX4_paperShare : ByteArray := prog_1_method_28_code
def yX4_paperShare : MethodName := ⟨RX4, "paperShare", "()F"⟩
abbrev cX4_meanTrim : ByteArray := prog_1_method_29_code
def yX4_meanTrim : MethodName := ⟨RX4, "meanTrim", "()D"⟩
abbrev cX4_isGrade : ByteArray := prog_1_method_30_code
def yX4_isGrade : MethodName := ⟨RX4, "isGrade", "(I)Z"⟩
abbrev cX4_isWeightTaken : ByteArray := prog_1_method_31_code
def yX4_isWeightTaken : MethodName := ⟨RX4, "isWeightTaken", "(I)Z"⟩
abbrev cX4_massOfAnHour : ByteArray := prog_1_method_32_code
def yX4_massOfAnHour : MethodName := ⟨RX4, "massOfAnHour", "(I)I"⟩
abbrev cX4_nearestWaiting : ByteArray := prog_1_method_33_code
def yX4_nearestWaiting : MethodName := ⟨RX4, "nearestWaiting", "(IZ)I"⟩
abbrev cX4_passAnHour : ByteArray := prog_1_method_34_code
def yX4_passAnHour : MethodName := ⟨RX4, "passAnHour", "()I"⟩
abbrev cX4_make : ByteArray := prog_1_method_35_code
def yX4_make : MethodName := ⟨RX4, "make", "(CII)V"⟩
abbrev cX4_isWithin : ByteArray := prog_1_method_36_code
def yX4_isWithin : MethodName := ⟨RX4, "isWithin", "(III)Z"⟩
abbrev cX4_quotient : ByteArray := prog_1_method_37_code
def yX4_quotient : MethodName := ⟨RX4, "quotient", "(II)I"⟩
def RX5 : String := "PaperMachineLaw$Mill"
def TX5 : u_T := fun k => match k with
  | 0 => ("PaperMachineLaw$Mill", "weight", "[I", true)
  | 1 => ("PaperMachineLaw$Mill", "grade", "[I", true)
  | 2 => ("PaperMachineLaw$Mill", "width", "[I", true)
  | 3 => ("PaperMachineLaw$Mill", "lacks", "[I", true)
  | 4 => ("PaperMachineLaw$Mill", "cut", "[I", true)
  | 5 => ("PaperMachineLaw$Mill", "orders", "I", false)
  | 6 => ("PaperMachineLaw$Mill", "machine", "I", false)
  | 7 => ("PaperMachineLaw$Mill", "now", "I", false)
  | 8 => ("PaperMachineLaw$Mill", "changing", "I", false)
  | 9 => ("PaperMachineLaw$Mill", "isUp", "Z", false)
  | 10 => ("PaperMachineLaw$Mill", "share", "I", false)
  | 11 => ("PaperMachineLaw$Mill", "limit", "I", false)
  | 12 => ("PaperMachineLaw$Mill", "first", "I", false)
  | 13 => ("PaperMachineLaw$Mill", "second", "I", false)
  | 14 => ("PaperMachineLaw$Mill", "hours", "I", false)
  | 15 => ("PaperMachineLaw$Mill", "in", "J", false)
  | 16 => ("PaperMachineLaw$Mill", "paper", "J", false)
  | 17 => ("PaperMachineLaw$Mill", "lost", "J", false)
  | 18 => ("PaperMachineLaw$Mill", "made", "J", false)
  | 19 => ("PaperMachineLaw$Mill", "steam", "J", false)
  | 20 => ("PaperMachineLaw$Mill", "papers", "I", false)
  | 21 => ("PaperMachineLaw$Mill", "trims", "I", false)
  | _ => ("PaperMachineLaw$Mill", "last", "C", false)
def tyX5 : Nat → FieldType := fun k => match k with
  | 0 => .array .int
  | 1 => .array .int
  | 2 => .array .int
  | 3 => .array .int
  | 4 => .array .int
  | 5 => .int
  | 6 => .int
  | 7 => .int
  | 8 => .int
  | 9 => .boolean
  | 10 => .int
  | 11 => .int
  | 12 => .int
  | 13 => .int
  | 14 => .int
  | 15 => .long
  | 16 => .long
  | 17 => .long
  | 18 => .long
  | 19 => .long
  | 20 => .int
  | 21 => .int
  | _ => .char
abbrev wsX50 : List Cond := u_ws RX5 TX5 23
theorem nmX5 : ∀ a, a < 23 → ∀ b, b < 23 → a ≠ b → (TX5 a).2.1 ≠ (TX5 b).2.1 := by decide +kernel
theorem tyX5_ok : ∀ k, k < 23 → parseFieldDescriptor (TX5 k).2.2.1 = some (tyX5 k) := by decide +kernel
abbrev cX5_init : ByteArray := prog_7_method_1_code
def yX5_init : MethodName := ⟨RX5, "<init>", "()V"⟩
abbrev cX5_broke : ByteArray := prog_7_method_2_code
def yX5_broke : MethodName := ⟨RX5, "broke", "()I"⟩
abbrev cX5_cutOf : ByteArray := prog_7_method_3_code
def yX5_cutOf : MethodName := ⟨RX5, "cutOf", "(I)[I"⟩
abbrev cX5_sumOf : ByteArray := prog_7_method_4_code
def yX5_sumOf : MethodName := ⟨RX5, "sumOf", "([I)I"⟩
abbrev cX5_makes : ByteArray := prog_7_method_5_code
def yX5_makes : MethodName := ⟨RX5, "makes", "(IZ)V"⟩
abbrev cX5_passes : ByteArray := prog_7_method_6_code
def yX5_passes : MethodName := ⟨RX5, "passes", "()I"⟩
abbrev cX5_next : ByteArray := prog_7_method_7_code
def yX5_next : MethodName := ⟨RX5, "next", "()I"⟩
def RX6 : String := "PaperMachineModel"
def TX6 : u_T := fun k => match k with
  | _ => ("", "", "", false)
def tyX6 : Nat → FieldType := fun k => match k with
  | _ => .int
abbrev wsX60 : List Cond := u_ws RX6 TX6 0
theorem nmX6 : ∀ a, a < 0 → ∀ b, b < 0 → a ≠ b → (TX6 a).2.1 ≠ (TX6 b).2.1 := by decide +kernel
theorem tyX6_ok : ∀ k, k < 0 → parseFieldDescriptor (TX6 k).2.2.1 = some (tyX6 k) := by decide +kernel
def RJx145de : String := "java/io/Serializable"
def TJx145de : u_T := fun k => match k with
  | _ => ("", "", "", false)
def tyJx145de : Nat → FieldType := fun k => match k with
  | _ => .int
abbrev wsJx145de0 : List Cond := u_ws RJx145de TJx145de 0
theorem nmJx145de : ∀ a, a < 0 → ∀ b, b < 0 → a ≠ b → (TJx145de a).2.1 ≠ (TJx145de b).2.1 := by decide +kernel
theorem tyJx145de_ok : ∀ k, k < 0 → parseFieldDescriptor (TJx145de k).2.2.1 = some (tyJx145de k) := by decide +kernel
def RJ9 : String := "java/lang/Math"
def TJ9 : u_T := fun k => match k with
  | _ => ("", "", "", false)
def tyJ9 : Nat → FieldType := fun k => match k with
  | _ => .int
abbrev wsJ90 : List Cond := u_ws RJ9 TJ9 0
theorem nmJ9 : ∀ a, a < 0 → ∀ b, b < 0 → a ≠ b → (TJ9 a).2.1 ≠ (TJ9 b).2.1 := by decide +kernel
theorem tyJ9_ok : ∀ k, k < 0 → parseFieldDescriptor (TJ9 k).2.2.1 = some (tyJ9 k) := by decide +kernel
abbrev cJ9_abs_0f7a4 : ByteArray := prog_15_method_59_code
def yJ9_abs_0f7a4 : MethodName := ⟨RJ9, "abs", "(I)I"⟩
abbrev cJ9_max_7cf53 : ByteArray := prog_15_method_65_code
def yJ9_max_7cf53 : MethodName := ⟨RJ9, "max", "(II)I"⟩
abbrev cJ9_min_7cf53 : ByteArray := prog_15_method_69_code
def yJ9_min_7cf53 : MethodName := ⟨RJ9, "min", "(II)I"⟩
def RJ0 : String := "java/lang/String"
def TJ0 : u_T := fun k => match k with
  | _ => ("", "", "", false)
def tyJ0 : Nat → FieldType := fun k => match k with
  | _ => .int
abbrev wsJ00 : List Cond := u_ws RJ0 TJ0 0
theorem nmJ0 : ∀ a, a < 0 → ∀ b, b < 0 → a ≠ b → (TJ0 a).2.1 ≠ (TJ0 b).2.1 := by decide +kernel
theorem tyJ0_ok : ∀ k, k < 0 → parseFieldDescriptor (TJ0 k).2.2.1 = some (tyJ0 k) := by decide +kernel
def RJ10 : String := "java/lang/System"
def TJ10 : u_T := fun k => match k with
  | _ => ("", "", "", false)
def tyJ10 : Nat → FieldType := fun k => match k with
  | _ => .int
abbrev wsJ100 : List Cond := u_ws RJ10 TJ10 0
theorem nmJ10 : ∀ a, a < 0 → ∀ b, b < 0 → a ≠ b → (TJ10 a).2.1 ≠ (TJ10 b).2.1 := by decide +kernel
theorem tyJ10_ok : ∀ k, k < 0 → parseFieldDescriptor (TJ10 k).2.2.1 = some (tyJ10 k) := by decide +kernel
def RJ7 : String := "java/util/Arrays"
def TJ7 : u_T := fun k => match k with
  | _ => ("", "", "", false)
def tyJ7 : Nat → FieldType := fun k => match k with
  | _ => .int
abbrev wsJ70 : List Cond := u_ws RJ7 TJ7 0
theorem nmJ7 : ∀ a, a < 0 → ∀ b, b < 0 → a ≠ b → (TJ7 a).2.1 ≠ (TJ7 b).2.1 := by decide +kernel
theorem tyJ7_ok : ∀ k, k < 0 → parseFieldDescriptor (TJ7 k).2.2.1 = some (tyJ7 k) := by decide +kernel
abbrev cJ7_fill_53178 : ByteArray := prog_21_method_103_code
def yJ7_fill_53178 : MethodName := ⟨RJ7, "fill", "([II)V"⟩
def RL : String := "PaperMachineLaw"
abbrev cL_cell : ByteArray := method_2_code
def yL_cell : MethodName := ⟨RL, "cell", "([II)I"⟩
abbrev cL_low : ByteArray := method_3_code
def yL_low : MethodName := ⟨RL, "low", "(II)I"⟩
abbrev cL_best : ByteArray := method_4_code
def yL_best : MethodName := ⟨RL, "best", "([I[III)[I"⟩
abbrev cL_next : ByteArray := method_5_code
def yL_next : MethodName := ⟨RL, "next", "(LPaperMachine;)I"⟩
abbrev cL_agrees : ByteArray := method_6_code
def yL_agrees : MethodName := ⟨RL, "agrees", "(LPaperMachine;LPaperMachineLaw$Mill;)Z"⟩
abbrev cL_acts : ByteArray := method_7_code
def yL_acts : MethodName := ⟨RL, "acts", "(LPaperMachine;LPaperMachineLaw$Mill;I)Z"⟩
abbrev cL_law : ByteArray := code
def yL_law : MethodName := ⟨RL, "law", "([I)Z"⟩
def wsX0_init : List Cond := .code yX0_init cX0_init 1 none :: ([.methodLink RX0 1 objectInit, .instanceMethod objectInit, .code objectInit ⟨#[0xb1]⟩ 1 none, .fieldLink RX0 7 "PaperMachine$Contract" "limit" "I", .fieldLink RX0 13 "PaperMachine$Contract" "firstPrice" "I", .fieldLink RX0 16 "PaperMachine$Contract" "secondPrice" "I"] ++ wsX00)
def wsX0_cost : List Cond := .code yX0_cost cX0_cost 3 (some .long) :: ([.fieldLink RX0 7 "PaperMachine$Contract" "limit" "I", .methodLink RX0 19 Lib.Math.min.name, .static Lib.Math.min.name, .initialized "java/lang/Math", .code Lib.Math.min.name Lib.Math.min.code 2 (some .int), .fieldLink RX0 13 "PaperMachine$Contract" "firstPrice" "I", .fieldLink RX0 16 "PaperMachine$Contract" "secondPrice" "I"] ++ wsX00)
def wsX1_init : List Cond := .code yX1_init cX1_init 1 none :: ([.methodLink RX1 3 objectInit, .instanceMethod objectInit, .code objectInit ⟨#[0xb1]⟩ 1 none, .arrayClass .int, .fieldLink RX1 9 "PaperMachine$Cutter" "best" "[I", .fieldLink RX1 15 "PaperMachine$Cutter" "trial" "[I", .fieldLink RX1 18 "PaperMachine$Cutter" "widths" "[I", .fieldLink RX1 21 "PaperMachine$Cutter" "mostRolls" "[I", .fieldLink RX1 24 "PaperMachine$Cutter" "widestFrom" "[I", .fieldLink RX1 27 "PaperMachine$Cutter" "fewest" "[I"] ++ wsX10)
def wsX3_has : List Cond := .code yX3_has cX3_has 2 (some .boolean) :: ([.fieldLink RX3 24 "PaperMachine$OrderBook" "count" "I"] ++ wsX30)
def wsX1_load : List Cond := .code yX1_load cX1_load 7 none :: ([.methodLink RX1 30 Lib.Math.min.name, .static Lib.Math.min.name, .initialized "java/lang/Math", .code Lib.Math.min.name Lib.Math.min.code 2 (some .int), .methodLink RX1 36 Lib.Math.max.name, .static Lib.Math.max.name, .code Lib.Math.max.name Lib.Math.max.code 2 (some .int), .fieldLink RX1 39 "PaperMachine$Cutter" "room" "I", .fieldLink RX1 49 "PaperMachine$OrderBook" "grades" "[I", .fieldLink RX1 18 "PaperMachine$Cutter" "widths" "[I", .fieldLink RX1 52 "PaperMachine$OrderBook" "widths" "[I", .fieldLink RX1 21 "PaperMachine$Cutter" "mostRolls" "[I", .fieldLink RX1 53 "PaperMachine$OrderBook" "lacking" "[I", .fieldLink RX1 24 "PaperMachine$Cutter" "widestFrom" "[I", .methodLink RX1 43 yX3_has, .instanceMethod yX3_has, .selects RX3 yX3_has yX3_has, .initialized RX3, .code yX3_has cX3_has 2 (some .boolean), .fieldLink RX3 24 "PaperMachine$OrderBook" "count" "I"] ++ wsX10 ++ wsX30)
def wsJ7_fill_53178 : List Cond := .code yJ7_fill_53178 cJ7_fill_53178 4 none :: ([])
def wsX1_keepIfGreater : List Cond := .code yX1_keepIfGreater cX1_keepIfGreater 2 none :: ([.fieldLink RX1 56 "PaperMachine$Cutter" "bestSum" "I", .fieldLink RX1 15 "PaperMachine$Cutter" "trial" "[I", .fieldLink RX1 9 "PaperMachine$Cutter" "best" "[I", .methodLink RX1 73 arraycopyName, .native arraycopyName, .static arraycopyName, .initialized "java/lang/System"] ++ wsX10)
def wsX1_search : List Cond := .code yX1_search cX1_search 7 none :: ([.fieldLink RX1 24 "PaperMachine$Cutter" "widestFrom" "[I", .fieldLink RX1 39 "PaperMachine$Cutter" "room" "I", .methodLink RX1 30 Lib.Math.min.name, .static Lib.Math.min.name, .initialized "java/lang/Math", .code Lib.Math.min.name Lib.Math.min.code 2 (some .int), .fieldLink RX1 56 "PaperMachine$Cutter" "bestSum" "I", .fieldLink RX1 21 "PaperMachine$Cutter" "mostRolls" "[I", .fieldLink RX1 18 "PaperMachine$Cutter" "widths" "[I", .fieldLink RX1 15 "PaperMachine$Cutter" "trial" "[I", .methodLink RX1 69 yX1_keepIfGreater, .instanceMethod yX1_keepIfGreater, .selects RX1 yX1_keepIfGreater yX1_keepIfGreater, .initialized RX1, .code yX1_keepIfGreater cX1_keepIfGreater 2 none, .fieldLink RX1 9 "PaperMachine$Cutter" "best" "[I", .methodLink RX1 73 arraycopyName, .native arraycopyName, .static arraycopyName, .initialized "java/lang/System", .methodLink RX1 65 yX1_search, .static yX1_search] ++ wsX10)
def wsX1_sumBySearch_r1 : List Cond := [Cond.fieldLink RX1 56 "PaperMachine$Cutter" "bestSum" "I", Cond.fieldLink RX1 9 "PaperMachine$Cutter" "best" "[I", Cond.methodLink RX1 59 yJ7_fill_53178, Cond.static yJ7_fill_53178, Cond.initialized RJ7, Cond.code yJ7_fill_53178 cJ7_fill_53178 4 none, Cond.methodLink RX1 65 yX1_search, Cond.static yX1_search, Cond.initialized RX1, Cond.code yX1_search cX1_search 7 none, Cond.fieldLink RX1 24 "PaperMachine$Cutter" "widestFrom" "[I", Cond.fieldLink RX1 39 "PaperMachine$Cutter" "room" "I", Cond.methodLink RX1 30 Lib.Math.min.name, Cond.static Lib.Math.min.name, Cond.initialized "java/lang/Math", Cond.code Lib.Math.min.name Lib.Math.min.code 2 (some .int), Cond.fieldLink RX1 21 "PaperMachine$Cutter" "mostRolls" "[I", Cond.fieldLink RX1 18 "PaperMachine$Cutter" "widths" "[I", Cond.fieldLink RX1 15 "PaperMachine$Cutter" "trial" "[I", Cond.methodLink RX1 69 yX1_keepIfGreater, Cond.instanceMethod yX1_keepIfGreater, Cond.selects RX1 yX1_keepIfGreater yX1_keepIfGreater, Cond.code yX1_keepIfGreater cX1_keepIfGreater 2 none, Cond.methodLink RX1 73 arraycopyName]
def wsX1_sumBySearch_r2 : List Cond := [Cond.native arraycopyName, Cond.static arraycopyName, Cond.initialized "java/lang/System"]
def wsX1_sumBySearch : List Cond := .code yX1_sumBySearch cX1_sumBySearch 1 (some .int) :: ((wsX1_sumBySearch_r1 ++ wsX1_sumBySearch_r2) ++ wsX10)
def wsX2_init : List Cond := .code yX2_init cX2_init 1 none :: ([.methodLink RX2 3 objectInit, .instanceMethod objectInit, .code objectInit ⟨#[0xb1]⟩ 1 none, .arrayClass .char, .fieldLink RX2 9 "PaperMachine$HourBook" "kinds" "[C", .arrayClass .int, .fieldLink RX2 15 "PaperMachine$HourBook" "freshIn" "[I", .fieldLink RX2 19 "PaperMachine$HourBook" "paperOut" "[I", .fieldLink RX2 22 "PaperMachine$HourBook" "lossOut" "[I"] ++ wsX20)
def wsX2_has : List Cond := .code yX2_has cX2_has 2 (some .boolean) :: ([.fieldLink RX2 25 "PaperMachine$HourBook" "count" "I"] ++ wsX20)
def wsX2_writeMade : List Cond := .code yX2_writeMade cX2_writeMade 5 none :: ([.fieldLink RX2 25 "PaperMachine$HourBook" "count" "I", .fieldLink RX2 9 "PaperMachine$HourBook" "kinds" "[C", .fieldLink RX2 15 "PaperMachine$HourBook" "freshIn" "[I", .fieldLink RX2 19 "PaperMachine$HourBook" "paperOut" "[I", .fieldLink RX2 22 "PaperMachine$HourBook" "lossOut" "[I", .fieldLink RX2 33 "PaperMachine$HourBook" "freshSum" "J", .fieldLink RX2 37 "PaperMachine$HourBook" "paperSum" "J", .fieldLink RX2 40 "PaperMachine$HourBook" "lossSum" "J"] ++ wsX20)
def wsX2_writeNothing : List Cond := .code yX2_writeNothing cX2_writeNothing 1 none :: ([.methodLink RX2 29 yX2_writeMade, .instanceMethod yX2_writeMade, .selects RX2 yX2_writeMade yX2_writeMade, .initialized RX2, .code yX2_writeMade cX2_writeMade 5 none, .fieldLink RX2 25 "PaperMachine$HourBook" "count" "I", .fieldLink RX2 9 "PaperMachine$HourBook" "kinds" "[C", .fieldLink RX2 15 "PaperMachine$HourBook" "freshIn" "[I", .fieldLink RX2 19 "PaperMachine$HourBook" "paperOut" "[I", .fieldLink RX2 22 "PaperMachine$HourBook" "lossOut" "[I", .fieldLink RX2 33 "PaperMachine$HourBook" "freshSum" "J", .fieldLink RX2 37 "PaperMachine$HourBook" "paperSum" "J", .fieldLink RX2 40 "PaperMachine$HourBook" "lossSum" "J"] ++ wsX20)
def wsX2_writeTrim : List Cond := .code yX2_writeTrim cX2_writeTrim 2 none :: ([.fieldLink RX2 43 "PaperMachine$HourBook" "trimSum" "J", .fieldLink RX2 46 "PaperMachine$HourBook" "paperHours" "I"] ++ wsX20)
def wsX2_fibreStillThere : List Cond := .code yX2_fibreStillThere cX2_fibreStillThere 3 (some .int) :: ([.fieldLink RX2 25 "PaperMachine$HourBook" "count" "I", .fieldLink RX2 15 "PaperMachine$HourBook" "freshIn" "[I", .fieldLink RX2 19 "PaperMachine$HourBook" "paperOut" "[I", .fieldLink RX2 22 "PaperMachine$HourBook" "lossOut" "[I"] ++ wsX20)
def wsX3_init : List Cond := .code yX3_init cX3_init 1 none :: ([.methodLink RX3 3 objectInit, .instanceMethod objectInit, .code objectInit ⟨#[0xb1]⟩ 1 none, .arrayClass .int, .fieldLink RX3 9 "PaperMachine$OrderBook" "grades" "[I", .fieldLink RX3 15 "PaperMachine$OrderBook" "widths" "[I", .fieldLink RX3 18 "PaperMachine$OrderBook" "rollsCut" "[I", .fieldLink RX3 21 "PaperMachine$OrderBook" "lacking" "[I"] ++ wsX30)
def wsX3_isFull : List Cond := .code yX3_isFull cX3_isFull 1 (some .boolean) :: ([.fieldLink RX3 24 "PaperMachine$OrderBook" "count" "I"] ++ wsX30)
def wsX3_write : List Cond := .code yX3_write cX3_write 5 (some .int) :: ([.fieldLink RX3 24 "PaperMachine$OrderBook" "count" "I", .fieldLink RX3 9 "PaperMachine$OrderBook" "grades" "[I", .fieldLink RX3 15 "PaperMachine$OrderBook" "widths" "[I", .fieldLink RX3 18 "PaperMachine$OrderBook" "rollsCut" "[I", .fieldLink RX3 21 "PaperMachine$OrderBook" "lacking" "[I", .methodLink RX3 28 yX3_isFull, .instanceMethod yX3_isFull, .selects RX3 yX3_isFull yX3_isFull, .initialized RX3, .code yX3_isFull cX3_isFull 1 (some .boolean)] ++ wsX30)
def wsX3_widestOpen : List Cond := .code yX3_widestOpen cX3_widestOpen 3 (some .int) :: ([.fieldLink RX3 24 "PaperMachine$OrderBook" "count" "I", .fieldLink RX3 21 "PaperMachine$OrderBook" "lacking" "[I", .fieldLink RX3 15 "PaperMachine$OrderBook" "widths" "[I", .methodLink RX3 32 Lib.Math.max.name, .static Lib.Math.max.name, .initialized "java/lang/Math", .code Lib.Math.max.name Lib.Math.max.code 2 (some .int)] ++ wsX30)
def wsX3_rollsLacking : List Cond := .code yX3_rollsLacking cX3_rollsLacking 4 (some .int) :: ([.fieldLink RX3 24 "PaperMachine$OrderBook" "count" "I", .fieldLink RX3 9 "PaperMachine$OrderBook" "grades" "[I", .fieldLink RX3 21 "PaperMachine$OrderBook" "lacking" "[I"] ++ wsX30)
def wsX3_takeOff : List Cond := .code yX3_takeOff cX3_takeOff 4 (some .int) :: ([.fieldLink RX3 24 "PaperMachine$OrderBook" "count" "I", .fieldLink RX3 18 "PaperMachine$OrderBook" "rollsCut" "[I", .fieldLink RX3 21 "PaperMachine$OrderBook" "lacking" "[I"] ++ wsX30)
def wsX4_init_r1 : List Cond := [Cond.methodLink RX4 1 objectInit, Cond.instanceMethod objectInit, Cond.code objectInit ⟨#[0xb1]⟩ 1 none, Cond.arrayClass .int, Cond.fieldLink RX4 9 "PaperMachine" "weights" "[I", Cond.fieldLink RX4 13 "PaperMachine" "machineWidth" "I", Cond.fieldLink RX4 17 "PaperMachine" "machineGrade" "I", Cond.fieldLink RX4 20 "PaperMachine" "upward" "Z", Cond.classLink RX4 24 RX3, Cond.instantiable RX3 5, Cond.initialized RX3, Cond.fieldLink RX4 27 "PaperMachine" "orderBook" "LPaperMachine$OrderBook;", Cond.classLink RX4 31 RX1, Cond.instantiable RX1 8, Cond.initialized RX1, Cond.fieldLink RX4 34 "PaperMachine" "cutter" "LPaperMachine$Cutter;", Cond.classLink RX4 38 RX0, Cond.instantiable RX0 3, Cond.initialized RX0, Cond.fieldLink RX4 41 "PaperMachine" "contract" "LPaperMachine$Contract;", Cond.classLink RX4 45 RX2, Cond.instantiable RX2 11, Cond.initialized RX2, Cond.fieldLink RX4 48 "PaperMachine" "hourBook" "LPaperMachine$HourBook;"]
def wsX4_init_r2 : List Cond := [Cond.fieldLink RX4 52 "PaperMachine" "share" "I", Cond.instanceMethod yX3_init, Cond.code yX3_init cX3_init 1 none, Cond.methodLink RX3 3 objectInit, Cond.fieldLink RX3 9 "PaperMachine$OrderBook" "grades" "[I", Cond.fieldLink RX3 15 "PaperMachine$OrderBook" "widths" "[I", Cond.fieldLink RX3 18 "PaperMachine$OrderBook" "rollsCut" "[I", Cond.fieldLink RX3 21 "PaperMachine$OrderBook" "lacking" "[I", Cond.instanceMethod yX1_init, Cond.code yX1_init cX1_init 1 none, Cond.methodLink RX1 3 objectInit, Cond.fieldLink RX1 9 "PaperMachine$Cutter" "best" "[I", Cond.fieldLink RX1 15 "PaperMachine$Cutter" "trial" "[I", Cond.fieldLink RX1 18 "PaperMachine$Cutter" "widths" "[I", Cond.fieldLink RX1 21 "PaperMachine$Cutter" "mostRolls" "[I", Cond.fieldLink RX1 24 "PaperMachine$Cutter" "widestFrom" "[I", Cond.fieldLink RX1 27 "PaperMachine$Cutter" "fewest" "[I", Cond.instanceMethod yX0_init, Cond.code yX0_init cX0_init 1 none, Cond.methodLink RX0 1 objectInit, Cond.fieldLink RX0 7 "PaperMachine$Contract" "limit" "I", Cond.fieldLink RX0 13 "PaperMachine$Contract" "firstPrice" "I", Cond.fieldLink RX0 16 "PaperMachine$Contract" "secondPrice" "I", Cond.instanceMethod yX2_init]
def wsX4_init_r3 : List Cond := [Cond.code yX2_init cX2_init 1 none, Cond.methodLink RX2 3 objectInit, Cond.arrayClass .char, Cond.fieldLink RX2 9 "PaperMachine$HourBook" "kinds" "[C", Cond.fieldLink RX2 15 "PaperMachine$HourBook" "freshIn" "[I", Cond.fieldLink RX2 19 "PaperMachine$HourBook" "paperOut" "[I", Cond.fieldLink RX2 22 "PaperMachine$HourBook" "lossOut" "[I"]
def wsX4_init : List Cond := .code yX4_init cX4_init 1 none :: ((wsX4_init_r1 ++ (wsX4_init_r2 ++ wsX4_init_r3)) ++ wsX40 ++ wsX30 ++ wsX10 ++ wsX00 ++ wsX20)
def wsX4_isWithin : List Cond := .code yX4_isWithin cX4_isWithin 3 (some .boolean) :: ([])
def wsX4_isWeightTaken : List Cond := .code yX4_isWeightTaken cX4_isWeightTaken 3 (some .boolean) :: ([.fieldLink RX4 70 "PaperMachine" "gradeCount" "I", .fieldLink RX4 9 "PaperMachine" "weights" "[I"] ++ wsX40)
def wsX4_addGrade : List Cond := .code yX4_addGrade cX4_addGrade 3 (some .int) :: ([.classLink RX4 63 "java/lang/IllegalArgumentException", .initialized "java/lang/IllegalArgumentException", .classLink RX4 73 "java/lang/IllegalStateException", .initialized "java/lang/IllegalStateException", .fieldLink RX4 70 "PaperMachine" "gradeCount" "I", .fieldLink RX4 9 "PaperMachine" "weights" "[I", .methodLink RX4 55 yX4_isWithin, .static yX4_isWithin, .initialized RX4, .code yX4_isWithin cX4_isWithin 3 (some .boolean), .methodLink RX4 59 yX4_isWeightTaken, .instanceMethod yX4_isWeightTaken, .selects RX4 yX4_isWeightTaken yX4_isWeightTaken, .code yX4_isWeightTaken cX4_isWeightTaken 3 (some .boolean)] ++ wsX40 ++ (vx_atS RX4 67 "java/lang/IllegalArgumentException" ["java/lang/RuntimeException", "java/lang/Exception"]).filter goodWord ++ (vx_atS RX4 77 "java/lang/IllegalStateException" ["java/lang/RuntimeException", "java/lang/Exception"]).filter goodWord)
def wsX4_setWidth : List Cond := .code yX4_setWidth cX4_setWidth 3 (some .int) :: ([.classLink RX4 63 "java/lang/IllegalArgumentException", .initialized "java/lang/IllegalArgumentException", .classLink RX4 73 "java/lang/IllegalStateException", .initialized "java/lang/IllegalStateException", .fieldLink RX4 27 "PaperMachine" "orderBook" "LPaperMachine$OrderBook;", .fieldLink RX4 13 "PaperMachine" "machineWidth" "I", .methodLink RX4 55 yX4_isWithin, .static yX4_isWithin, .initialized RX4, .code yX4_isWithin cX4_isWithin 3 (some .boolean), .methodLink RX4 80 yX3_widestOpen, .instanceMethod yX3_widestOpen, .selects RX3 yX3_widestOpen yX3_widestOpen, .initialized RX3, .code yX3_widestOpen cX3_widestOpen 3 (some .int), .fieldLink RX3 24 "PaperMachine$OrderBook" "count" "I", .fieldLink RX3 21 "PaperMachine$OrderBook" "lacking" "[I", .fieldLink RX3 15 "PaperMachine$OrderBook" "widths" "[I", .methodLink RX3 32 Lib.Math.max.name, .static Lib.Math.max.name, .initialized "java/lang/Math", .code Lib.Math.max.name Lib.Math.max.code 2 (some .int)] ++ wsX40 ++ wsX30 ++ (vx_atS RX4 67 "java/lang/IllegalArgumentException" ["java/lang/RuntimeException", "java/lang/Exception"]).filter goodWord ++ (vx_atS RX4 77 "java/lang/IllegalStateException" ["java/lang/RuntimeException", "java/lang/Exception"]).filter goodWord)
def wsX4_isGrade : List Cond := .code yX4_isGrade cX4_isGrade 2 (some .boolean) :: ([.fieldLink RX4 70 "PaperMachine" "gradeCount" "I"] ++ wsX40)
def wsX4_change : List Cond := .code yX4_change cX4_change 4 (some .int) :: ([.classLink RX4 89 "java/lang/IndexOutOfBoundsException", .initialized "java/lang/IndexOutOfBoundsException", .classLink RX4 63 "java/lang/IllegalArgumentException", .initialized "java/lang/IllegalArgumentException", .classLink RX4 73 "java/lang/IllegalStateException", .initialized "java/lang/IllegalStateException", .fieldLink RX4 17 "PaperMachine" "machineGrade" "I", .fieldLink RX4 96 "PaperMachine" "changeHours" "I", .fieldLink RX4 9 "PaperMachine" "weights" "[I", .methodLink RX4 101 Lib.Math.abs.name, .static Lib.Math.abs.name, .initialized "java/lang/Math", .code Lib.Math.abs.name Lib.Math.abs.code 1 (some .int), .fieldLink RX4 20 "PaperMachine" "upward" "Z", .methodLink RX4 86 yX4_isGrade, .instanceMethod yX4_isGrade, .selects RX4 yX4_isGrade yX4_isGrade, .initialized RX4, .code yX4_isGrade cX4_isGrade 2 (some .boolean), .fieldLink RX4 70 "PaperMachine" "gradeCount" "I"] ++ wsX40 ++ (vx_atS RX4 93 "java/lang/IndexOutOfBoundsException" ["java/lang/RuntimeException", "java/lang/Exception"]).filter goodWord ++ (vx_atS RX4 67 "java/lang/IllegalArgumentException" ["java/lang/RuntimeException", "java/lang/Exception"]).filter goodWord ++ (vx_atS RX4 77 "java/lang/IllegalStateException" ["java/lang/RuntimeException", "java/lang/Exception"]).filter goodWord)
def wsX4_grade : List Cond := .code yX4_grade cX4_grade 1 (some .int) :: ([.classLink RX4 107 "java/util/NoSuchElementException", .initialized "java/util/NoSuchElementException", .fieldLink RX4 17 "PaperMachine" "machineGrade" "I", .methodLink RX4 86 yX4_isGrade, .instanceMethod yX4_isGrade, .selects RX4 yX4_isGrade yX4_isGrade, .initialized RX4, .code yX4_isGrade cX4_isGrade 2 (some .boolean), .fieldLink RX4 70 "PaperMachine" "gradeCount" "I"] ++ wsX40 ++ (nx_atS RX4 111 "java/util/NoSuchElementException" ["java/lang/RuntimeException", "java/lang/Exception"]).filter goodWord)
def wsX4_changing : List Cond := .code yX4_changing cX4_changing 1 (some .int) :: ([.fieldLink RX4 96 "PaperMachine" "changeHours" "I"] ++ wsX40)
def wsX4_nearestWaiting : List Cond := .code yX4_nearestWaiting cX4_nearestWaiting 8 (some .int) :: ([.fieldLink RX4 70 "PaperMachine" "gradeCount" "I", .fieldLink RX4 9 "PaperMachine" "weights" "[I", .fieldLink RX4 27 "PaperMachine" "orderBook" "LPaperMachine$OrderBook;", .methodLink RX4 174 yX3_rollsLacking, .instanceMethod yX3_rollsLacking, .selects RX3 yX3_rollsLacking yX3_rollsLacking, .initialized RX3, .code yX3_rollsLacking cX3_rollsLacking 4 (some .int), .fieldLink RX3 24 "PaperMachine$OrderBook" "count" "I", .fieldLink RX3 9 "PaperMachine$OrderBook" "grades" "[I", .fieldLink RX3 21 "PaperMachine$OrderBook" "lacking" "[I"] ++ wsX40 ++ wsX30)
def wsX4_next : List Cond := .code yX4_next cX4_next 2 (some .int) :: ([.classLink RX4 107 "java/util/NoSuchElementException", .initialized "java/util/NoSuchElementException", .fieldLink RX4 17 "PaperMachine" "machineGrade" "I", .fieldLink RX4 9 "PaperMachine" "weights" "[I", .fieldLink RX4 20 "PaperMachine" "upward" "Z", .methodLink RX4 86 yX4_isGrade, .instanceMethod yX4_isGrade, .selects RX4 yX4_isGrade yX4_isGrade, .initialized RX4, .code yX4_isGrade cX4_isGrade 2 (some .boolean), .fieldLink RX4 70 "PaperMachine" "gradeCount" "I", .methodLink RX4 112 yX4_nearestWaiting, .instanceMethod yX4_nearestWaiting, .selects RX4 yX4_nearestWaiting yX4_nearestWaiting, .code yX4_nearestWaiting cX4_nearestWaiting 8 (some .int), .fieldLink RX4 27 "PaperMachine" "orderBook" "LPaperMachine$OrderBook;", .methodLink RX4 174 yX3_rollsLacking, .instanceMethod yX3_rollsLacking, .selects RX3 yX3_rollsLacking yX3_rollsLacking, .initialized RX3, .code yX3_rollsLacking cX3_rollsLacking 4 (some .int), .fieldLink RX3 24 "PaperMachine$OrderBook" "count" "I", .fieldLink RX3 9 "PaperMachine$OrderBook" "grades" "[I", .fieldLink RX3 21 "PaperMachine$OrderBook" "lacking" "[I"] ++ wsX40 ++ wsX30 ++ (nx_atS RX4 111 "java/util/NoSuchElementException" ["java/lang/RuntimeException", "java/lang/Exception"]).filter goodWord)
def wsX4_massOfAnHour : List Cond := .code yX4_massOfAnHour cX4_massOfAnHour 2 (some .int) :: ([.fieldLink RX4 9 "PaperMachine" "weights" "[I", .fieldLink RX4 13 "PaperMachine" "machineWidth" "I", .methodLink RX4 86 yX4_isGrade, .instanceMethod yX4_isGrade, .selects RX4 yX4_isGrade yX4_isGrade, .initialized RX4, .code yX4_isGrade cX4_isGrade 2 (some .boolean), .fieldLink RX4 70 "PaperMachine" "gradeCount" "I"] ++ wsX40)
def wsX4_mass : List Cond := .code yX4_mass cX4_mass 2 (some .int) :: ([.classLink RX4 89 "java/lang/IndexOutOfBoundsException", .initialized "java/lang/IndexOutOfBoundsException", .methodLink RX4 86 yX4_isGrade, .instanceMethod yX4_isGrade, .selects RX4 yX4_isGrade yX4_isGrade, .initialized RX4, .code yX4_isGrade cX4_isGrade 2 (some .boolean), .fieldLink RX4 70 "PaperMachine" "gradeCount" "I", .methodLink RX4 118 yX4_massOfAnHour, .instanceMethod yX4_massOfAnHour, .selects RX4 yX4_massOfAnHour yX4_massOfAnHour, .code yX4_massOfAnHour cX4_massOfAnHour 2 (some .int), .fieldLink RX4 9 "PaperMachine" "weights" "[I", .fieldLink RX4 13 "PaperMachine" "machineWidth" "I"] ++ wsX40 ++ (vx_atS RX4 93 "java/lang/IndexOutOfBoundsException" ["java/lang/RuntimeException", "java/lang/Exception"]).filter goodWord)
def wsX4_order_r1 : List Cond := [Cond.classLink RX4 89 "java/lang/IndexOutOfBoundsException", Cond.initialized "java/lang/IndexOutOfBoundsException", Cond.classLink RX4 63 "java/lang/IllegalArgumentException", Cond.initialized "java/lang/IllegalArgumentException", Cond.classLink RX4 123 "java/lang/UnsupportedOperationException", Cond.initialized "java/lang/UnsupportedOperationException", Cond.classLink RX4 73 "java/lang/IllegalStateException", Cond.initialized "java/lang/IllegalStateException", Cond.fieldLink RX4 13 "PaperMachine" "machineWidth" "I", Cond.fieldLink RX4 27 "PaperMachine" "orderBook" "LPaperMachine$OrderBook;", Cond.methodLink RX4 86 yX4_isGrade, Cond.instanceMethod yX4_isGrade, Cond.selects RX4 yX4_isGrade yX4_isGrade, Cond.initialized RX4, Cond.code yX4_isGrade cX4_isGrade 2 (some .boolean), Cond.fieldLink RX4 70 "PaperMachine" "gradeCount" "I", Cond.methodLink RX4 55 yX4_isWithin, Cond.static yX4_isWithin, Cond.code yX4_isWithin cX4_isWithin 3 (some .boolean), Cond.methodLink RX4 128 yX3_isFull, Cond.instanceMethod yX3_isFull, Cond.selects RX3 yX3_isFull yX3_isFull, Cond.initialized RX3, Cond.code yX3_isFull cX3_isFull 1 (some .boolean)]
def wsX4_order_r2 : List Cond := [Cond.fieldLink RX3 24 "PaperMachine$OrderBook" "count" "I", Cond.methodLink RX4 134 yX3_write, Cond.instanceMethod yX3_write, Cond.selects RX3 yX3_write yX3_write, Cond.code yX3_write cX3_write 5 (some .int), Cond.fieldLink RX3 9 "PaperMachine$OrderBook" "grades" "[I", Cond.fieldLink RX3 15 "PaperMachine$OrderBook" "widths" "[I", Cond.fieldLink RX3 18 "PaperMachine$OrderBook" "rollsCut" "[I", Cond.fieldLink RX3 21 "PaperMachine$OrderBook" "lacking" "[I", Cond.methodLink RX3 28 yX3_isFull]
def wsX4_order : List Cond := .code yX4_order cX4_order 4 (some .int) :: ((wsX4_order_r1 ++ wsX4_order_r2) ++ wsX40 ++ wsX30 ++ (vx_atS RX4 93 "java/lang/IndexOutOfBoundsException" ["java/lang/RuntimeException", "java/lang/Exception"]).filter goodWord ++ (vx_atS RX4 67 "java/lang/IllegalArgumentException" ["java/lang/RuntimeException", "java/lang/Exception"]).filter goodWord ++ (vx_atS RX4 127 "java/lang/UnsupportedOperationException" ["java/lang/RuntimeException", "java/lang/Exception"]).filter goodWord ++ (vx_atS RX4 77 "java/lang/IllegalStateException" ["java/lang/RuntimeException", "java/lang/Exception"]).filter goodWord)
def wsX4_cut : List Cond := .code yX4_cut cX4_cut 2 (some .int) :: ([.classLink RX4 89 "java/lang/IndexOutOfBoundsException", .initialized "java/lang/IndexOutOfBoundsException", .fieldLink RX4 27 "PaperMachine" "orderBook" "LPaperMachine$OrderBook;", .fieldLink RX4 148 "PaperMachine$OrderBook" "rollsCut" "[I", .methodLink RX4 138 yX3_has, .instanceMethod yX3_has, .selects RX3 yX3_has yX3_has, .initialized RX3, .code yX3_has cX3_has 2 (some .boolean), .fieldLink RX3 24 "PaperMachine$OrderBook" "count" "I"] ++ wsX40 ++ wsX30 ++ (vx_atS RX4 93 "java/lang/IndexOutOfBoundsException" ["java/lang/RuntimeException", "java/lang/Exception"]).filter goodWord)
def wsX4_lacks : List Cond := .code yX4_lacks cX4_lacks 2 (some .int) :: ([.classLink RX4 89 "java/lang/IndexOutOfBoundsException", .initialized "java/lang/IndexOutOfBoundsException", .fieldLink RX4 27 "PaperMachine" "orderBook" "LPaperMachine$OrderBook;", .fieldLink RX4 143 "PaperMachine$OrderBook" "lacking" "[I", .methodLink RX4 138 yX3_has, .instanceMethod yX3_has, .selects RX3 yX3_has yX3_has, .initialized RX3, .code yX3_has cX3_has 2 (some .boolean), .fieldLink RX3 24 "PaperMachine$OrderBook" "count" "I"] ++ wsX40 ++ wsX30 ++ (vx_atS RX4 93 "java/lang/IndexOutOfBoundsException" ["java/lang/RuntimeException", "java/lang/Exception"]).filter goodWord)
def wsX4_trim_r1 : List Cond := [Cond.classLink RX4 89 "java/lang/IndexOutOfBoundsException", Cond.initialized "java/lang/IndexOutOfBoundsException", Cond.fieldLink RX4 34 "PaperMachine" "cutter" "LPaperMachine$Cutter;", Cond.fieldLink RX4 27 "PaperMachine" "orderBook" "LPaperMachine$OrderBook;", Cond.fieldLink RX4 13 "PaperMachine" "machineWidth" "I", Cond.methodLink RX4 86 yX4_isGrade, Cond.instanceMethod yX4_isGrade, Cond.selects RX4 yX4_isGrade yX4_isGrade, Cond.initialized RX4, Cond.code yX4_isGrade cX4_isGrade 2 (some .boolean), Cond.fieldLink RX4 70 "PaperMachine" "gradeCount" "I", Cond.methodLink RX4 151 yX1_load, Cond.instanceMethod yX1_load, Cond.selects RX1 yX1_load yX1_load, Cond.initialized RX1, Cond.code yX1_load cX1_load 7 none, Cond.methodLink RX1 30 Lib.Math.min.name, Cond.static Lib.Math.min.name, Cond.initialized "java/lang/Math", Cond.code Lib.Math.min.name Lib.Math.min.code 2 (some .int), Cond.methodLink RX1 36 Lib.Math.max.name, Cond.static Lib.Math.max.name, Cond.code Lib.Math.max.name Lib.Math.max.code 2 (some .int), Cond.fieldLink RX1 39 "PaperMachine$Cutter" "room" "I"]
def wsX4_trim_r2 : List Cond := [Cond.fieldLink RX1 49 "PaperMachine$OrderBook" "grades" "[I", Cond.fieldLink RX1 18 "PaperMachine$Cutter" "widths" "[I", Cond.fieldLink RX1 52 "PaperMachine$OrderBook" "widths" "[I", Cond.fieldLink RX1 21 "PaperMachine$Cutter" "mostRolls" "[I", Cond.fieldLink RX1 53 "PaperMachine$OrderBook" "lacking" "[I", Cond.fieldLink RX1 24 "PaperMachine$Cutter" "widestFrom" "[I", Cond.methodLink RX1 43 yX3_has, Cond.instanceMethod yX3_has, Cond.selects RX3 yX3_has yX3_has, Cond.initialized RX3, Cond.code yX3_has cX3_has 2 (some .boolean), Cond.fieldLink RX3 24 "PaperMachine$OrderBook" "count" "I", Cond.methodLink RX4 155 yX1_sumBySearch, Cond.instanceMethod yX1_sumBySearch, Cond.selects RX1 yX1_sumBySearch yX1_sumBySearch, Cond.code yX1_sumBySearch cX1_sumBySearch 1 (some .int), Cond.fieldLink RX1 56 "PaperMachine$Cutter" "bestSum" "I", Cond.fieldLink RX1 9 "PaperMachine$Cutter" "best" "[I", Cond.methodLink RX1 59 yJ7_fill_53178, Cond.static yJ7_fill_53178, Cond.initialized RJ7, Cond.code yJ7_fill_53178 cJ7_fill_53178 4 none, Cond.methodLink RX1 65 yX1_search, Cond.static yX1_search]
def wsX4_trim_r3 : List Cond := [Cond.code yX1_search cX1_search 7 none, Cond.fieldLink RX1 15 "PaperMachine$Cutter" "trial" "[I", Cond.methodLink RX1 69 yX1_keepIfGreater, Cond.instanceMethod yX1_keepIfGreater, Cond.selects RX1 yX1_keepIfGreater yX1_keepIfGreater, Cond.code yX1_keepIfGreater cX1_keepIfGreater 2 none, Cond.methodLink RX1 73 arraycopyName, Cond.native arraycopyName, Cond.static arraycopyName, Cond.initialized "java/lang/System"]
def wsX4_trim : List Cond := .code yX4_trim cX4_trim 2 (some .int) :: ((wsX4_trim_r1 ++ (wsX4_trim_r2 ++ wsX4_trim_r3)) ++ wsX40 ++ wsX10 ++ wsX30 ++ (vx_atS RX4 93 "java/lang/IndexOutOfBoundsException" ["java/lang/RuntimeException", "java/lang/Exception"]).filter goodWord)
def wsX4_setShare : List Cond := .code yX4_setShare cX4_setShare 3 (some .int) :: ([.classLink RX4 63 "java/lang/IllegalArgumentException", .initialized "java/lang/IllegalArgumentException", .fieldLink RX4 52 "PaperMachine" "share" "I", .methodLink RX4 55 yX4_isWithin, .static yX4_isWithin, .initialized RX4, .code yX4_isWithin cX4_isWithin 3 (some .boolean)] ++ wsX40 ++ (vx_atS RX4 67 "java/lang/IllegalArgumentException" ["java/lang/RuntimeException", "java/lang/Exception"]).filter goodWord)
def wsX4_setContract : List Cond := .code yX4_setContract cX4_setContract 5 (some .int) :: ([.classLink RX4 63 "java/lang/IllegalArgumentException", .initialized "java/lang/IllegalArgumentException", .fieldLink RX4 41 "PaperMachine" "contract" "LPaperMachine$Contract;", .fieldLink RX4 184 "PaperMachine$Contract" "limit" "I", .fieldLink RX4 187 "PaperMachine$Contract" "firstPrice" "I", .fieldLink RX4 190 "PaperMachine$Contract" "secondPrice" "I", .methodLink RX4 55 yX4_isWithin, .static yX4_isWithin, .initialized RX4, .code yX4_isWithin cX4_isWithin 3 (some .boolean)] ++ wsX40 ++ wsX00 ++ (vx_atS RX4 67 "java/lang/IllegalArgumentException" ["java/lang/RuntimeException", "java/lang/Exception"]).filter goodWord)
def wsX4_make_r1 : List Cond := [Cond.fieldLink RX4 203 "PaperMachine" "brokeKept" "I", Cond.fieldLink RX4 52 "PaperMachine" "share" "I", Cond.methodLink RX4 263 Lib.Math.min.name, Cond.static Lib.Math.min.name, Cond.initialized "java/lang/Math", Cond.code Lib.Math.min.name Lib.Math.min.code 2 (some .int), Cond.fieldLink RX4 48 "PaperMachine" "hourBook" "LPaperMachine$HourBook;", Cond.fieldLink RX4 229 "PaperMachine$HourBook" "massSum" "J", Cond.fieldLink RX4 226 "PaperMachine" "steamSum" "J", Cond.fieldLink RX4 41 "PaperMachine" "contract" "LPaperMachine$Contract;", Cond.methodLink RX4 266 yX2_writeMade, Cond.instanceMethod yX2_writeMade, Cond.selects RX2 yX2_writeMade yX2_writeMade, Cond.initialized RX2, Cond.code yX2_writeMade cX2_writeMade 5 none, Cond.fieldLink RX2 25 "PaperMachine$HourBook" "count" "I", Cond.fieldLink RX2 9 "PaperMachine$HourBook" "kinds" "[C", Cond.fieldLink RX2 15 "PaperMachine$HourBook" "freshIn" "[I", Cond.fieldLink RX2 19 "PaperMachine$HourBook" "paperOut" "[I", Cond.fieldLink RX2 22 "PaperMachine$HourBook" "lossOut" "[I", Cond.fieldLink RX2 33 "PaperMachine$HourBook" "freshSum" "J", Cond.fieldLink RX2 37 "PaperMachine$HourBook" "paperSum" "J", Cond.fieldLink RX2 40 "PaperMachine$HourBook" "lossSum" "J", Cond.methodLink RX4 270 yX0_cost]
def wsX4_make_r2 : List Cond := [Cond.instanceMethod yX0_cost, Cond.selects RX0 yX0_cost yX0_cost, Cond.initialized RX0, Cond.code yX0_cost cX0_cost 3 (some .long), Cond.fieldLink RX0 7 "PaperMachine$Contract" "limit" "I", Cond.methodLink RX0 19 Lib.Math.min.name, Cond.fieldLink RX0 13 "PaperMachine$Contract" "firstPrice" "I", Cond.fieldLink RX0 16 "PaperMachine$Contract" "secondPrice" "I"]
def wsX4_make : List Cond := .code yX4_make cX4_make 7 none :: ((wsX4_make_r1 ++ wsX4_make_r2) ++ wsX40 ++ wsX20 ++ wsX00)
def wsX4_quotient : List Cond := .code yX4_quotient cX4_quotient 2 (some .int) :: ([])
def wsX4_passAnHour_r1 : List Cond := [Cond.fieldLink RX4 17 "PaperMachine" "machineGrade" "I", Cond.fieldLink RX4 48 "PaperMachine" "hourBook" "LPaperMachine$HourBook;", Cond.fieldLink RX4 96 "PaperMachine" "changeHours" "I", Cond.fieldLink RX4 34 "PaperMachine" "cutter" "LPaperMachine$Cutter;", Cond.fieldLink RX4 27 "PaperMachine" "orderBook" "LPaperMachine$OrderBook;", Cond.fieldLink RX4 13 "PaperMachine" "machineWidth" "I", Cond.fieldLink RX4 164 "PaperMachine$Cutter" "best" "[I", Cond.methodLink RX4 86 yX4_isGrade, Cond.instanceMethod yX4_isGrade, Cond.selects RX4 yX4_isGrade yX4_isGrade, Cond.initialized RX4, Cond.code yX4_isGrade cX4_isGrade 2 (some .boolean), Cond.fieldLink RX4 70 "PaperMachine" "gradeCount" "I", Cond.methodLink RX4 245 yX2_writeNothing, Cond.instanceMethod yX2_writeNothing, Cond.selects RX2 yX2_writeNothing yX2_writeNothing, Cond.initialized RX2, Cond.code yX2_writeNothing cX2_writeNothing 1 none, Cond.methodLink RX2 29 yX2_writeMade, Cond.instanceMethod yX2_writeMade, Cond.selects RX2 yX2_writeMade yX2_writeMade, Cond.code yX2_writeMade cX2_writeMade 5 none, Cond.fieldLink RX2 25 "PaperMachine$HourBook" "count" "I", Cond.fieldLink RX2 9 "PaperMachine$HourBook" "kinds" "[C"]
def wsX4_passAnHour_r2 : List Cond := [Cond.fieldLink RX2 15 "PaperMachine$HourBook" "freshIn" "[I", Cond.fieldLink RX2 19 "PaperMachine$HourBook" "paperOut" "[I", Cond.fieldLink RX2 22 "PaperMachine$HourBook" "lossOut" "[I", Cond.fieldLink RX2 33 "PaperMachine$HourBook" "freshSum" "J", Cond.fieldLink RX2 37 "PaperMachine$HourBook" "paperSum" "J", Cond.fieldLink RX2 40 "PaperMachine$HourBook" "lossSum" "J", Cond.methodLink RX4 118 yX4_massOfAnHour, Cond.instanceMethod yX4_massOfAnHour, Cond.selects RX4 yX4_massOfAnHour yX4_massOfAnHour, Cond.code yX4_massOfAnHour cX4_massOfAnHour 2 (some .int), Cond.fieldLink RX4 9 "PaperMachine" "weights" "[I", Cond.methodLink RX4 248 yX4_make, Cond.instanceMethod yX4_make, Cond.selects RX4 yX4_make yX4_make, Cond.code yX4_make cX4_make 7 none, Cond.fieldLink RX4 203 "PaperMachine" "brokeKept" "I", Cond.fieldLink RX4 52 "PaperMachine" "share" "I", Cond.methodLink RX4 263 Lib.Math.min.name, Cond.static Lib.Math.min.name, Cond.initialized "java/lang/Math", Cond.code Lib.Math.min.name Lib.Math.min.code 2 (some .int), Cond.fieldLink RX4 229 "PaperMachine$HourBook" "massSum" "J", Cond.fieldLink RX4 226 "PaperMachine" "steamSum" "J", Cond.fieldLink RX4 41 "PaperMachine" "contract" "LPaperMachine$Contract;"]
def wsX4_passAnHour_r3 : List Cond := [Cond.methodLink RX4 266 yX2_writeMade, Cond.methodLink RX4 270 yX0_cost, Cond.instanceMethod yX0_cost, Cond.selects RX0 yX0_cost yX0_cost, Cond.initialized RX0, Cond.code yX0_cost cX0_cost 3 (some .long), Cond.fieldLink RX0 7 "PaperMachine$Contract" "limit" "I", Cond.methodLink RX0 19 Lib.Math.min.name, Cond.fieldLink RX0 13 "PaperMachine$Contract" "firstPrice" "I", Cond.fieldLink RX0 16 "PaperMachine$Contract" "secondPrice" "I", Cond.methodLink RX4 151 yX1_load, Cond.instanceMethod yX1_load, Cond.selects RX1 yX1_load yX1_load, Cond.initialized RX1, Cond.code yX1_load cX1_load 7 none, Cond.methodLink RX1 30 Lib.Math.min.name, Cond.methodLink RX1 36 Lib.Math.max.name, Cond.static Lib.Math.max.name, Cond.code Lib.Math.max.name Lib.Math.max.code 2 (some .int), Cond.fieldLink RX1 39 "PaperMachine$Cutter" "room" "I", Cond.fieldLink RX1 49 "PaperMachine$OrderBook" "grades" "[I", Cond.fieldLink RX1 18 "PaperMachine$Cutter" "widths" "[I", Cond.fieldLink RX1 52 "PaperMachine$OrderBook" "widths" "[I", Cond.fieldLink RX1 21 "PaperMachine$Cutter" "mostRolls" "[I"]
def wsX4_passAnHour_r4 : List Cond := [Cond.fieldLink RX1 53 "PaperMachine$OrderBook" "lacking" "[I", Cond.fieldLink RX1 24 "PaperMachine$Cutter" "widestFrom" "[I", Cond.methodLink RX1 43 yX3_has, Cond.instanceMethod yX3_has, Cond.selects RX3 yX3_has yX3_has, Cond.initialized RX3, Cond.code yX3_has cX3_has 2 (some .boolean), Cond.fieldLink RX3 24 "PaperMachine$OrderBook" "count" "I", Cond.methodLink RX4 155 yX1_sumBySearch, Cond.instanceMethod yX1_sumBySearch, Cond.selects RX1 yX1_sumBySearch yX1_sumBySearch, Cond.code yX1_sumBySearch cX1_sumBySearch 1 (some .int), Cond.fieldLink RX1 56 "PaperMachine$Cutter" "bestSum" "I", Cond.fieldLink RX1 9 "PaperMachine$Cutter" "best" "[I", Cond.methodLink RX1 59 yJ7_fill_53178, Cond.static yJ7_fill_53178, Cond.initialized RJ7, Cond.code yJ7_fill_53178 cJ7_fill_53178 4 none, Cond.methodLink RX1 65 yX1_search, Cond.static yX1_search, Cond.code yX1_search cX1_search 7 none, Cond.fieldLink RX1 15 "PaperMachine$Cutter" "trial" "[I", Cond.methodLink RX1 69 yX1_keepIfGreater, Cond.instanceMethod yX1_keepIfGreater]
def wsX4_passAnHour_r5 : List Cond := [Cond.selects RX1 yX1_keepIfGreater yX1_keepIfGreater, Cond.code yX1_keepIfGreater cX1_keepIfGreater 2 none, Cond.methodLink RX1 73 arraycopyName, Cond.native arraycopyName, Cond.static arraycopyName, Cond.initialized "java/lang/System", Cond.methodLink RX4 252 yX4_quotient, Cond.static yX4_quotient, Cond.code yX4_quotient cX4_quotient 2 (some .int), Cond.methodLink RX4 255 yX2_writeTrim, Cond.instanceMethod yX2_writeTrim, Cond.selects RX2 yX2_writeTrim yX2_writeTrim, Cond.code yX2_writeTrim cX2_writeTrim 2 none, Cond.fieldLink RX2 43 "PaperMachine$HourBook" "trimSum" "J", Cond.fieldLink RX2 46 "PaperMachine$HourBook" "paperHours" "I", Cond.methodLink RX4 259 yX3_takeOff, Cond.instanceMethod yX3_takeOff, Cond.selects RX3 yX3_takeOff yX3_takeOff, Cond.code yX3_takeOff cX3_takeOff 4 (some .int), Cond.fieldLink RX3 18 "PaperMachine$OrderBook" "rollsCut" "[I", Cond.fieldLink RX3 21 "PaperMachine$OrderBook" "lacking" "[I"]
def wsX4_passAnHour : List Cond := .code yX4_passAnHour cX4_passAnHour 4 (some .int) :: ((wsX4_passAnHour_r1 ++ (wsX4_passAnHour_r2 ++ (wsX4_passAnHour_r3 ++ (wsX4_passAnHour_r4 ++ wsX4_passAnHour_r5)))) ++ wsX40 ++ wsX10 ++ wsX20 ++ wsX00 ++ wsX30)
def wsX4_pass_r1 : List Cond := [Cond.classLink RX4 63 "java/lang/IllegalArgumentException", Cond.initialized "java/lang/IllegalArgumentException", Cond.classLink RX4 73 "java/lang/IllegalStateException", Cond.initialized "java/lang/IllegalStateException", Cond.fieldLink RX4 48 "PaperMachine" "hourBook" "LPaperMachine$HourBook;", Cond.fieldLink RX4 195 "PaperMachine$HourBook" "count" "I", Cond.methodLink RX4 55 yX4_isWithin, Cond.static yX4_isWithin, Cond.initialized RX4, Cond.code yX4_isWithin cX4_isWithin 3 (some .boolean), Cond.methodLink RX4 200 yX4_passAnHour, Cond.instanceMethod yX4_passAnHour, Cond.selects RX4 yX4_passAnHour yX4_passAnHour, Cond.code yX4_passAnHour cX4_passAnHour 4 (some .int), Cond.fieldLink RX4 17 "PaperMachine" "machineGrade" "I", Cond.fieldLink RX4 96 "PaperMachine" "changeHours" "I", Cond.fieldLink RX4 34 "PaperMachine" "cutter" "LPaperMachine$Cutter;", Cond.fieldLink RX4 27 "PaperMachine" "orderBook" "LPaperMachine$OrderBook;", Cond.fieldLink RX4 13 "PaperMachine" "machineWidth" "I", Cond.fieldLink RX4 164 "PaperMachine$Cutter" "best" "[I", Cond.methodLink RX4 86 yX4_isGrade, Cond.instanceMethod yX4_isGrade, Cond.selects RX4 yX4_isGrade yX4_isGrade, Cond.code yX4_isGrade cX4_isGrade 2 (some .boolean)]
def wsX4_pass_r2 : List Cond := [Cond.fieldLink RX4 70 "PaperMachine" "gradeCount" "I", Cond.methodLink RX4 245 yX2_writeNothing, Cond.instanceMethod yX2_writeNothing, Cond.selects RX2 yX2_writeNothing yX2_writeNothing, Cond.initialized RX2, Cond.code yX2_writeNothing cX2_writeNothing 1 none, Cond.methodLink RX2 29 yX2_writeMade, Cond.instanceMethod yX2_writeMade, Cond.selects RX2 yX2_writeMade yX2_writeMade, Cond.code yX2_writeMade cX2_writeMade 5 none, Cond.fieldLink RX2 25 "PaperMachine$HourBook" "count" "I", Cond.fieldLink RX2 9 "PaperMachine$HourBook" "kinds" "[C", Cond.fieldLink RX2 15 "PaperMachine$HourBook" "freshIn" "[I", Cond.fieldLink RX2 19 "PaperMachine$HourBook" "paperOut" "[I", Cond.fieldLink RX2 22 "PaperMachine$HourBook" "lossOut" "[I", Cond.fieldLink RX2 33 "PaperMachine$HourBook" "freshSum" "J", Cond.fieldLink RX2 37 "PaperMachine$HourBook" "paperSum" "J", Cond.fieldLink RX2 40 "PaperMachine$HourBook" "lossSum" "J", Cond.methodLink RX4 118 yX4_massOfAnHour, Cond.instanceMethod yX4_massOfAnHour, Cond.selects RX4 yX4_massOfAnHour yX4_massOfAnHour, Cond.code yX4_massOfAnHour cX4_massOfAnHour 2 (some .int), Cond.fieldLink RX4 9 "PaperMachine" "weights" "[I", Cond.methodLink RX4 248 yX4_make]
def wsX4_pass_r3 : List Cond := [Cond.instanceMethod yX4_make, Cond.selects RX4 yX4_make yX4_make, Cond.code yX4_make cX4_make 7 none, Cond.fieldLink RX4 203 "PaperMachine" "brokeKept" "I", Cond.fieldLink RX4 52 "PaperMachine" "share" "I", Cond.methodLink RX4 263 Lib.Math.min.name, Cond.static Lib.Math.min.name, Cond.initialized "java/lang/Math", Cond.code Lib.Math.min.name Lib.Math.min.code 2 (some .int), Cond.fieldLink RX4 229 "PaperMachine$HourBook" "massSum" "J", Cond.fieldLink RX4 226 "PaperMachine" "steamSum" "J", Cond.fieldLink RX4 41 "PaperMachine" "contract" "LPaperMachine$Contract;", Cond.methodLink RX4 266 yX2_writeMade, Cond.methodLink RX4 270 yX0_cost, Cond.instanceMethod yX0_cost, Cond.selects RX0 yX0_cost yX0_cost, Cond.initialized RX0, Cond.code yX0_cost cX0_cost 3 (some .long), Cond.fieldLink RX0 7 "PaperMachine$Contract" "limit" "I", Cond.methodLink RX0 19 Lib.Math.min.name, Cond.fieldLink RX0 13 "PaperMachine$Contract" "firstPrice" "I", Cond.fieldLink RX0 16 "PaperMachine$Contract" "secondPrice" "I", Cond.methodLink RX4 151 yX1_load, Cond.instanceMethod yX1_load]
def wsX4_pass_r4 : List Cond := [Cond.selects RX1 yX1_load yX1_load, Cond.initialized RX1, Cond.code yX1_load cX1_load 7 none, Cond.methodLink RX1 30 Lib.Math.min.name, Cond.methodLink RX1 36 Lib.Math.max.name, Cond.static Lib.Math.max.name, Cond.code Lib.Math.max.name Lib.Math.max.code 2 (some .int), Cond.fieldLink RX1 39 "PaperMachine$Cutter" "room" "I", Cond.fieldLink RX1 49 "PaperMachine$OrderBook" "grades" "[I", Cond.fieldLink RX1 18 "PaperMachine$Cutter" "widths" "[I", Cond.fieldLink RX1 52 "PaperMachine$OrderBook" "widths" "[I", Cond.fieldLink RX1 21 "PaperMachine$Cutter" "mostRolls" "[I", Cond.fieldLink RX1 53 "PaperMachine$OrderBook" "lacking" "[I", Cond.fieldLink RX1 24 "PaperMachine$Cutter" "widestFrom" "[I", Cond.methodLink RX1 43 yX3_has, Cond.instanceMethod yX3_has, Cond.selects RX3 yX3_has yX3_has, Cond.initialized RX3, Cond.code yX3_has cX3_has 2 (some .boolean), Cond.fieldLink RX3 24 "PaperMachine$OrderBook" "count" "I", Cond.methodLink RX4 155 yX1_sumBySearch, Cond.instanceMethod yX1_sumBySearch, Cond.selects RX1 yX1_sumBySearch yX1_sumBySearch, Cond.code yX1_sumBySearch cX1_sumBySearch 1 (some .int)]
def wsX4_pass_r5 : List Cond := [Cond.fieldLink RX1 56 "PaperMachine$Cutter" "bestSum" "I", Cond.fieldLink RX1 9 "PaperMachine$Cutter" "best" "[I", Cond.methodLink RX1 59 yJ7_fill_53178, Cond.static yJ7_fill_53178, Cond.initialized RJ7, Cond.code yJ7_fill_53178 cJ7_fill_53178 4 none, Cond.methodLink RX1 65 yX1_search, Cond.static yX1_search, Cond.code yX1_search cX1_search 7 none, Cond.fieldLink RX1 15 "PaperMachine$Cutter" "trial" "[I", Cond.methodLink RX1 69 yX1_keepIfGreater, Cond.instanceMethod yX1_keepIfGreater, Cond.selects RX1 yX1_keepIfGreater yX1_keepIfGreater, Cond.code yX1_keepIfGreater cX1_keepIfGreater 2 none, Cond.methodLink RX1 73 arraycopyName, Cond.native arraycopyName, Cond.static arraycopyName, Cond.initialized "java/lang/System", Cond.methodLink RX4 252 yX4_quotient, Cond.static yX4_quotient, Cond.code yX4_quotient cX4_quotient 2 (some .int), Cond.methodLink RX4 255 yX2_writeTrim, Cond.instanceMethod yX2_writeTrim, Cond.selects RX2 yX2_writeTrim yX2_writeTrim]
def wsX4_pass_r6 : List Cond := [Cond.code yX2_writeTrim cX2_writeTrim 2 none, Cond.fieldLink RX2 43 "PaperMachine$HourBook" "trimSum" "J", Cond.fieldLink RX2 46 "PaperMachine$HourBook" "paperHours" "I", Cond.methodLink RX4 259 yX3_takeOff, Cond.instanceMethod yX3_takeOff, Cond.selects RX3 yX3_takeOff yX3_takeOff, Cond.code yX3_takeOff cX3_takeOff 4 (some .int), Cond.fieldLink RX3 18 "PaperMachine$OrderBook" "rollsCut" "[I", Cond.fieldLink RX3 21 "PaperMachine$OrderBook" "lacking" "[I"]
def wsX4_pass : List Cond := .code yX4_pass cX4_pass 4 (some .int) :: ((wsX4_pass_r1 ++ (wsX4_pass_r2 ++ (wsX4_pass_r3 ++ (wsX4_pass_r4 ++ (wsX4_pass_r5 ++ wsX4_pass_r6))))) ++ wsX40 ++ wsX20 ++ wsX10 ++ wsX00 ++ wsX30 ++ (vx_atS RX4 67 "java/lang/IllegalArgumentException" ["java/lang/RuntimeException", "java/lang/Exception"]).filter goodWord ++ (vx_atS RX4 77 "java/lang/IllegalStateException" ["java/lang/RuntimeException", "java/lang/Exception"]).filter goodWord)
def wsX4_hours : List Cond := .code yX4_hours cX4_hours 1 (some .int) :: ([.fieldLink RX4 48 "PaperMachine" "hourBook" "LPaperMachine$HourBook;", .fieldLink RX4 195 "PaperMachine$HourBook" "count" "I"] ++ wsX40 ++ wsX20)
def wsX4_broke : List Cond := .code yX4_broke cX4_broke 1 (some .int) :: ([.fieldLink RX4 203 "PaperMachine" "brokeKept" "I"] ++ wsX40)
def wsX4_brokeByHours : List Cond := .code yX4_brokeByHours cX4_brokeByHours 1 (some .int) :: ([.fieldLink RX4 48 "PaperMachine" "hourBook" "LPaperMachine$HourBook;", .methodLink RX4 206 yX2_fibreStillThere, .instanceMethod yX2_fibreStillThere, .selects RX2 yX2_fibreStillThere yX2_fibreStillThere, .initialized RX2, .code yX2_fibreStillThere cX2_fibreStillThere 3 (some .int), .fieldLink RX2 25 "PaperMachine$HourBook" "count" "I", .fieldLink RX2 15 "PaperMachine$HourBook" "freshIn" "[I", .fieldLink RX2 19 "PaperMachine$HourBook" "paperOut" "[I", .fieldLink RX2 22 "PaperMachine$HourBook" "lossOut" "[I"] ++ wsX40 ++ wsX20)
def wsX4_fresh : List Cond := .code yX4_fresh cX4_fresh 1 (some .long) :: ([.fieldLink RX4 48 "PaperMachine" "hourBook" "LPaperMachine$HourBook;", .fieldLink RX4 209 "PaperMachine$HourBook" "freshSum" "J"] ++ wsX40 ++ wsX20)
def wsX4_paper : List Cond := .code yX4_paper cX4_paper 1 (some .long) :: ([.fieldLink RX4 48 "PaperMachine" "hourBook" "LPaperMachine$HourBook;", .fieldLink RX4 213 "PaperMachine$HourBook" "paperSum" "J"] ++ wsX40 ++ wsX20)
def wsX4_lost : List Cond := .code yX4_lost cX4_lost 1 (some .long) :: ([.fieldLink RX4 48 "PaperMachine" "hourBook" "LPaperMachine$HourBook;", .fieldLink RX4 216 "PaperMachine$HourBook" "lossSum" "J"] ++ wsX40 ++ wsX20)
def wsX4_made : List Cond := .code yX4_made cX4_made 2 (some .char) :: ([.classLink RX4 89 "java/lang/IndexOutOfBoundsException", .initialized "java/lang/IndexOutOfBoundsException", .fieldLink RX4 48 "PaperMachine" "hourBook" "LPaperMachine$HourBook;", .fieldLink RX4 222 "PaperMachine$HourBook" "kinds" "[C", .methodLink RX4 219 yX2_has, .instanceMethod yX2_has, .selects RX2 yX2_has yX2_has, .initialized RX2, .code yX2_has cX2_has 2 (some .boolean), .fieldLink RX2 25 "PaperMachine$HourBook" "count" "I"] ++ wsX40 ++ wsX20 ++ (vx_atS RX4 93 "java/lang/IndexOutOfBoundsException" ["java/lang/RuntimeException", "java/lang/Exception"]).filter goodWord)
def wsX4_steamCost : List Cond := .code yX4_steamCost cX4_steamCost 1 (some .long) :: ([.fieldLink RX4 226 "PaperMachine" "steamSum" "J"] ++ wsX40)
def wsX4_paperShare : List Cond := .code yX4_paperShare cX4_paperShare 1 (some .float) :: ([.classLink RX4 232 "java/lang/ArithmeticException", .initialized "java/lang/ArithmeticException", .fieldLink RX4 48 "PaperMachine" "hourBook" "LPaperMachine$HourBook;", .fieldLink RX4 229 "PaperMachine$HourBook" "massSum" "J", .fieldLink RX4 213 "PaperMachine$HourBook" "paperSum" "J"] ++ wsX40 ++ wsX20 ++ (vx_atS RX4 236 "java/lang/ArithmeticException" ["java/lang/RuntimeException", "java/lang/Exception"]).filter goodWord)
def wsX4_meanTrim : List Cond := .code yX4_meanTrim cX4_meanTrim 1 (some .double) :: ([.classLink RX4 232 "java/lang/ArithmeticException", .initialized "java/lang/ArithmeticException", .fieldLink RX4 48 "PaperMachine" "hourBook" "LPaperMachine$HourBook;", .fieldLink RX4 237 "PaperMachine$HourBook" "paperHours" "I", .fieldLink RX4 242 "PaperMachine$HourBook" "trimSum" "J"] ++ wsX40 ++ wsX20 ++ (vx_atS RX4 236 "java/lang/ArithmeticException" ["java/lang/RuntimeException", "java/lang/Exception"]).filter goodWord)
def wsX5_init : List Cond := .code yX5_init cX5_init 1 none :: ([.methodLink RX5 1 objectInit, .instanceMethod objectInit, .code objectInit ⟨#[0xb1]⟩ 1 none, .arrayClass .int, .fieldLink RX5 7 "PaperMachineLaw$Mill" "weight" "[I", .fieldLink RX5 13 "PaperMachineLaw$Mill" "grade" "[I", .fieldLink RX5 16 "PaperMachineLaw$Mill" "width" "[I", .fieldLink RX5 19 "PaperMachineLaw$Mill" "lacks" "[I", .fieldLink RX5 22 "PaperMachineLaw$Mill" "cut" "[I", .fieldLink RX5 25 "PaperMachineLaw$Mill" "machine" "I", .fieldLink RX5 29 "PaperMachineLaw$Mill" "now" "I", .fieldLink RX5 32 "PaperMachineLaw$Mill" "isUp" "Z", .fieldLink RX5 36 "PaperMachineLaw$Mill" "share" "I", .fieldLink RX5 39 "PaperMachineLaw$Mill" "limit" "I", .fieldLink RX5 42 "PaperMachineLaw$Mill" "first" "I", .fieldLink RX5 45 "PaperMachineLaw$Mill" "second" "I"] ++ wsX50)
def wsX5_broke : List Cond := .code yX5_broke cX5_broke 1 (some .int) :: ([.fieldLink RX5 48 "PaperMachineLaw$Mill" "in" "J", .fieldLink RX5 52 "PaperMachineLaw$Mill" "paper" "J", .fieldLink RX5 55 "PaperMachineLaw$Mill" "lost" "J"] ++ wsX50)
def wsL_best : List Cond := .code yL_best cL_best 11 (some (.array .int)) :: ([.arrayClass .int, .methodLink RL 9 Lib.Math.min.name, .static Lib.Math.min.name, .initialized "java/lang/Math", .code Lib.Math.min.name Lib.Math.min.code 2 (some .int)])
def wsX5_cutOf : List Cond := .code yX5_cutOf cX5_cutOf 9 (some (.array .int)) :: ([.arrayClass .int, .fieldLink RX5 58 "PaperMachineLaw$Mill" "orders" "I", .fieldLink RX5 13 "PaperMachineLaw$Mill" "grade" "[I", .fieldLink RX5 19 "PaperMachineLaw$Mill" "lacks" "[I", .fieldLink RX5 16 "PaperMachineLaw$Mill" "width" "[I", .fieldLink RX5 25 "PaperMachineLaw$Mill" "machine" "I", .static yL_best, .initialized RL, .code yL_best cL_best 11 (some (.array .int)), .methodLink RL 9 Lib.Math.min.name, .static Lib.Math.min.name, .initialized "java/lang/Math", .code Lib.Math.min.name Lib.Math.min.code 2 (some .int)] ++ wsX50)
def wsX5_sumOf : List Cond := .code yX5_sumOf cX5_sumOf 4 (some .int) :: ([.fieldLink RX5 58 "PaperMachineLaw$Mill" "orders" "I", .fieldLink RX5 16 "PaperMachineLaw$Mill" "width" "[I"] ++ wsX50)
def wsX5_makes : List Cond := .code yX5_makes cX5_makes 6 none :: ([.fieldLink RX5 7 "PaperMachineLaw$Mill" "weight" "[I", .fieldLink RX5 29 "PaperMachineLaw$Mill" "now" "I", .fieldLink RX5 25 "PaperMachineLaw$Mill" "machine" "I", .fieldLink RX5 36 "PaperMachineLaw$Mill" "share" "I", .methodLink RX5 71 Lib.Math.min.name, .static Lib.Math.min.name, .initialized "java/lang/Math", .code Lib.Math.min.name Lib.Math.min.code 2 (some .int), .fieldLink RX5 77 "PaperMachineLaw$Mill" "made" "J", .fieldLink RX5 55 "PaperMachineLaw$Mill" "lost" "J", .fieldLink RX5 48 "PaperMachineLaw$Mill" "in" "J", .fieldLink RX5 52 "PaperMachineLaw$Mill" "paper" "J", .fieldLink RX5 80 "PaperMachineLaw$Mill" "steam" "J", .fieldLink RX5 39 "PaperMachineLaw$Mill" "limit" "I", .fieldLink RX5 42 "PaperMachineLaw$Mill" "first" "I", .methodLink RX5 83 Lib.Math.max.name, .static Lib.Math.max.name, .code Lib.Math.max.name Lib.Math.max.code 2 (some .int), .fieldLink RX5 45 "PaperMachineLaw$Mill" "second" "I", .methodLink RX5 67 yX5_broke, .instanceMethod yX5_broke, .selects RX5 yX5_broke yX5_broke, .initialized RX5, .code yX5_broke cX5_broke 1 (some .int)] ++ wsX50)
def wsX5_passes_r1 : List Cond := [Cond.fieldLink RX5 86 "PaperMachineLaw$Mill" "hours" "I", Cond.fieldLink RX5 89 "PaperMachineLaw$Mill" "last" "C", Cond.fieldLink RX5 29 "PaperMachineLaw$Mill" "now" "I", Cond.fieldLink RX5 93 "PaperMachineLaw$Mill" "changing" "I", Cond.fieldLink RX5 25 "PaperMachineLaw$Mill" "machine" "I", Cond.fieldLink RX5 58 "PaperMachineLaw$Mill" "orders" "I", Cond.fieldLink RX5 22 "PaperMachineLaw$Mill" "cut" "[I", Cond.fieldLink RX5 19 "PaperMachineLaw$Mill" "lacks" "[I", Cond.fieldLink RX5 108 "PaperMachineLaw$Mill" "papers" "I", Cond.fieldLink RX5 111 "PaperMachineLaw$Mill" "trims" "I", Cond.methodLink RX5 96 yX5_makes, Cond.instanceMethod yX5_makes, Cond.selects RX5 yX5_makes yX5_makes, Cond.initialized RX5, Cond.code yX5_makes cX5_makes 6 none, Cond.fieldLink RX5 7 "PaperMachineLaw$Mill" "weight" "[I", Cond.fieldLink RX5 36 "PaperMachineLaw$Mill" "share" "I", Cond.methodLink RX5 71 Lib.Math.min.name, Cond.static Lib.Math.min.name, Cond.initialized "java/lang/Math", Cond.code Lib.Math.min.name Lib.Math.min.code 2 (some .int), Cond.fieldLink RX5 77 "PaperMachineLaw$Mill" "made" "J", Cond.fieldLink RX5 55 "PaperMachineLaw$Mill" "lost" "J", Cond.fieldLink RX5 48 "PaperMachineLaw$Mill" "in" "J"]
def wsX5_passes_r2 : List Cond := [Cond.fieldLink RX5 52 "PaperMachineLaw$Mill" "paper" "J", Cond.fieldLink RX5 80 "PaperMachineLaw$Mill" "steam" "J", Cond.fieldLink RX5 39 "PaperMachineLaw$Mill" "limit" "I", Cond.fieldLink RX5 42 "PaperMachineLaw$Mill" "first" "I", Cond.methodLink RX5 83 Lib.Math.max.name, Cond.static Lib.Math.max.name, Cond.code Lib.Math.max.name Lib.Math.max.code 2 (some .int), Cond.fieldLink RX5 45 "PaperMachineLaw$Mill" "second" "I", Cond.methodLink RX5 67 yX5_broke, Cond.instanceMethod yX5_broke, Cond.selects RX5 yX5_broke yX5_broke, Cond.code yX5_broke cX5_broke 1 (some .int), Cond.methodLink RX5 100 yX5_cutOf, Cond.instanceMethod yX5_cutOf, Cond.selects RX5 yX5_cutOf yX5_cutOf, Cond.code yX5_cutOf cX5_cutOf 9 (some (.array .int)), Cond.arrayClass .int, Cond.fieldLink RX5 13 "PaperMachineLaw$Mill" "grade" "[I", Cond.fieldLink RX5 16 "PaperMachineLaw$Mill" "width" "[I", Cond.static yL_best, Cond.initialized RL, Cond.code yL_best cL_best 11 (some (.array .int)), Cond.methodLink RL 9 Lib.Math.min.name, Cond.methodLink RX5 104 yX5_sumOf]
def wsX5_passes_r3 : List Cond := [Cond.instanceMethod yX5_sumOf, Cond.selects RX5 yX5_sumOf yX5_sumOf, Cond.code yX5_sumOf cX5_sumOf 4 (some .int)]
def wsX5_passes : List Cond := .code yX5_passes cX5_passes 5 (some .int) :: ((wsX5_passes_r1 ++ (wsX5_passes_r2 ++ wsX5_passes_r3)) ++ wsX50)
def wsX5_next : List Cond := .code yX5_next cX5_next 5 (some .int) :: ([.arrayClass .boolean, .fieldLink RX5 58 "PaperMachineLaw$Mill" "orders" "I", .fieldLink RX5 13 "PaperMachineLaw$Mill" "grade" "[I", .fieldLink RX5 19 "PaperMachineLaw$Mill" "lacks" "[I", .fieldLink RX5 32 "PaperMachineLaw$Mill" "isUp" "Z", .fieldLink RX5 29 "PaperMachineLaw$Mill" "now" "I"] ++ wsX50)
def wsJ9_abs_0f7a4 : List Cond := .code yJ9_abs_0f7a4 cJ9_abs_0f7a4 1 (some .int) :: ([])
def wsJ9_max_7cf53 : List Cond := .code yJ9_max_7cf53 cJ9_max_7cf53 2 (some .int) :: ([])
def wsJ9_min_7cf53 : List Cond := .code yJ9_min_7cf53 cJ9_min_7cf53 2 (some .int) :: ([])
def wsL_cell : List Cond := .code yL_cell cL_cell 2 (some .int) :: ([.constant RL 7 (40503)])
def wsL_low : List Cond := .code yL_low cL_low 2 (some .int) :: ([.constant RL 8 (2147483647)])
def wsL_next_r1 : List Cond := [Cond.classLink RL 21 "java/util/NoSuchElementException", Cond.methodLink RL 15 yX4_next, Cond.instanceMethod yX4_next, Cond.selects RX4 yX4_next yX4_next, Cond.initialized RX4, Cond.code yX4_next cX4_next 2 (some .int), Cond.classLink RX4 107 "java/util/NoSuchElementException", Cond.initialized "java/util/NoSuchElementException", Cond.fieldLink RX4 17 "PaperMachine" "machineGrade" "I", Cond.fieldLink RX4 9 "PaperMachine" "weights" "[I", Cond.fieldLink RX4 20 "PaperMachine" "upward" "Z", Cond.methodLink RX4 86 yX4_isGrade, Cond.instanceMethod yX4_isGrade, Cond.selects RX4 yX4_isGrade yX4_isGrade, Cond.code yX4_isGrade cX4_isGrade 2 (some .boolean), Cond.fieldLink RX4 70 "PaperMachine" "gradeCount" "I", Cond.methodLink RX4 112 yX4_nearestWaiting, Cond.instanceMethod yX4_nearestWaiting, Cond.selects RX4 yX4_nearestWaiting yX4_nearestWaiting, Cond.code yX4_nearestWaiting cX4_nearestWaiting 8 (some .int), Cond.fieldLink RX4 27 "PaperMachine" "orderBook" "LPaperMachine$OrderBook;", Cond.methodLink RX4 174 yX3_rollsLacking, Cond.instanceMethod yX3_rollsLacking, Cond.selects RX3 yX3_rollsLacking yX3_rollsLacking]
def wsL_next_r2 : List Cond := [Cond.initialized RX3, Cond.code yX3_rollsLacking cX3_rollsLacking 4 (some .int), Cond.fieldLink RX3 24 "PaperMachine$OrderBook" "count" "I", Cond.fieldLink RX3 9 "PaperMachine$OrderBook" "grades" "[I", Cond.fieldLink RX3 21 "PaperMachine$OrderBook" "lacking" "[I"]
def wsL_next : List Cond := .codeWith yL_next cL_next 2 (some .int) [(0, 4, 5, 21)] :: ((wsL_next_r1 ++ wsL_next_r2) ++ wsX40 ++ wsX30 ++ (nx_atS RX4 111 "java/util/NoSuchElementException" ["java/lang/RuntimeException", "java/lang/Exception"]).filter goodWord)
def wsL_agrees_r1 : List Cond := [Cond.methodLink RL 23 yX4_hours, Cond.instanceMethod yX4_hours, Cond.selects RX4 yX4_hours yX4_hours, Cond.initialized RX4, Cond.code yX4_hours cX4_hours 1 (some .int), Cond.fieldLink RX4 48 "PaperMachine" "hourBook" "LPaperMachine$HourBook;", Cond.fieldLink RX4 195 "PaperMachine$HourBook" "count" "I", Cond.methodLink RL 31 yX4_changing, Cond.instanceMethod yX4_changing, Cond.selects RX4 yX4_changing yX4_changing, Cond.code yX4_changing cX4_changing 1 (some .int), Cond.fieldLink RX4 96 "PaperMachine" "changeHours" "I", Cond.methodLink RL 36 yX4_broke, Cond.instanceMethod yX4_broke, Cond.selects RX4 yX4_broke yX4_broke, Cond.code yX4_broke cX4_broke 1 (some .int), Cond.fieldLink RX4 203 "PaperMachine" "brokeKept" "I", Cond.methodLink RL 39 yX5_broke, Cond.instanceMethod yX5_broke, Cond.selects RX5 yX5_broke yX5_broke, Cond.initialized RX5, Cond.code yX5_broke cX5_broke 1 (some .int), Cond.fieldLink RX5 48 "PaperMachineLaw$Mill" "in" "J", Cond.fieldLink RX5 52 "PaperMachineLaw$Mill" "paper" "J"]
def wsL_agrees_r2 : List Cond := [Cond.fieldLink RX5 55 "PaperMachineLaw$Mill" "lost" "J", Cond.methodLink RL 40 yX4_brokeByHours, Cond.instanceMethod yX4_brokeByHours, Cond.selects RX4 yX4_brokeByHours yX4_brokeByHours, Cond.code yX4_brokeByHours cX4_brokeByHours 1 (some .int), Cond.methodLink RX4 206 yX2_fibreStillThere, Cond.instanceMethod yX2_fibreStillThere, Cond.selects RX2 yX2_fibreStillThere yX2_fibreStillThere, Cond.initialized RX2, Cond.code yX2_fibreStillThere cX2_fibreStillThere 3 (some .int), Cond.fieldLink RX2 25 "PaperMachine$HourBook" "count" "I", Cond.fieldLink RX2 15 "PaperMachine$HourBook" "freshIn" "[I", Cond.fieldLink RX2 19 "PaperMachine$HourBook" "paperOut" "[I", Cond.fieldLink RX2 22 "PaperMachine$HourBook" "lossOut" "[I", Cond.methodLink RL 43 yX4_fresh, Cond.instanceMethod yX4_fresh, Cond.selects RX4 yX4_fresh yX4_fresh, Cond.code yX4_fresh cX4_fresh 1 (some .long), Cond.fieldLink RX4 209 "PaperMachine$HourBook" "freshSum" "J", Cond.methodLink RL 51 yX4_paper, Cond.instanceMethod yX4_paper, Cond.selects RX4 yX4_paper yX4_paper, Cond.code yX4_paper cX4_paper 1 (some .long), Cond.fieldLink RX4 213 "PaperMachine$HourBook" "paperSum" "J"]
def wsL_agrees_r3 : List Cond := [Cond.methodLink RL 56 yX4_lost, Cond.instanceMethod yX4_lost, Cond.selects RX4 yX4_lost yX4_lost, Cond.code yX4_lost cX4_lost 1 (some .long), Cond.fieldLink RX4 216 "PaperMachine$HourBook" "lossSum" "J", Cond.methodLink RL 61 yX4_steamCost, Cond.instanceMethod yX4_steamCost, Cond.selects RX4 yX4_steamCost yX4_steamCost, Cond.code yX4_steamCost cX4_steamCost 1 (some .long), Cond.fieldLink RX4 226 "PaperMachine" "steamSum" "J", Cond.methodLink RL 67 yL_next, Cond.static yL_next, Cond.initialized RL, Cond.codeWith yL_next cL_next 2 (some .int) [(0, 4, 5, 21)], Cond.classLink RL 21 "java/util/NoSuchElementException", Cond.methodLink RL 15 yX4_next, Cond.instanceMethod yX4_next, Cond.selects RX4 yX4_next yX4_next, Cond.code yX4_next cX4_next 2 (some .int), Cond.classLink RX4 107 "java/util/NoSuchElementException", Cond.initialized "java/util/NoSuchElementException", Cond.fieldLink RX4 17 "PaperMachine" "machineGrade" "I", Cond.fieldLink RX4 9 "PaperMachine" "weights" "[I", Cond.fieldLink RX4 20 "PaperMachine" "upward" "Z"]
def wsL_agrees_r4 : List Cond := [Cond.methodLink RX4 86 yX4_isGrade, Cond.instanceMethod yX4_isGrade, Cond.selects RX4 yX4_isGrade yX4_isGrade, Cond.code yX4_isGrade cX4_isGrade 2 (some .boolean), Cond.fieldLink RX4 70 "PaperMachine" "gradeCount" "I", Cond.methodLink RX4 112 yX4_nearestWaiting, Cond.instanceMethod yX4_nearestWaiting, Cond.selects RX4 yX4_nearestWaiting yX4_nearestWaiting, Cond.code yX4_nearestWaiting cX4_nearestWaiting 8 (some .int), Cond.fieldLink RX4 27 "PaperMachine" "orderBook" "LPaperMachine$OrderBook;", Cond.methodLink RX4 174 yX3_rollsLacking, Cond.instanceMethod yX3_rollsLacking, Cond.selects RX3 yX3_rollsLacking yX3_rollsLacking, Cond.initialized RX3, Cond.code yX3_rollsLacking cX3_rollsLacking 4 (some .int), Cond.fieldLink RX3 24 "PaperMachine$OrderBook" "count" "I", Cond.fieldLink RX3 9 "PaperMachine$OrderBook" "grades" "[I", Cond.fieldLink RX3 21 "PaperMachine$OrderBook" "lacking" "[I", Cond.methodLink RL 72 yX5_next, Cond.instanceMethod yX5_next, Cond.selects RX5 yX5_next yX5_next, Cond.code yX5_next cX5_next 5 (some .int), Cond.arrayClass .boolean, Cond.fieldLink RX5 58 "PaperMachineLaw$Mill" "orders" "I"]
def wsL_agrees_r5 : List Cond := [Cond.fieldLink RX5 13 "PaperMachineLaw$Mill" "grade" "[I", Cond.fieldLink RX5 19 "PaperMachineLaw$Mill" "lacks" "[I", Cond.fieldLink RX5 32 "PaperMachineLaw$Mill" "isUp" "Z", Cond.fieldLink RX5 29 "PaperMachineLaw$Mill" "now" "I", Cond.methodLink RL 76 yX4_lacks, Cond.instanceMethod yX4_lacks, Cond.selects RX4 yX4_lacks yX4_lacks, Cond.code yX4_lacks cX4_lacks 2 (some .int), Cond.classLink RX4 89 "java/lang/IndexOutOfBoundsException", Cond.initialized "java/lang/IndexOutOfBoundsException", Cond.fieldLink RX4 143 "PaperMachine$OrderBook" "lacking" "[I", Cond.methodLink RX4 138 yX3_has, Cond.instanceMethod yX3_has, Cond.selects RX3 yX3_has yX3_has, Cond.code yX3_has cX3_has 2 (some .boolean), Cond.methodLink RL 83 yX4_cut, Cond.instanceMethod yX4_cut, Cond.selects RX4 yX4_cut yX4_cut, Cond.code yX4_cut cX4_cut 2 (some .int), Cond.fieldLink RX4 148 "PaperMachine$OrderBook" "rollsCut" "[I", Cond.methodLink RL 88 yX5_cutOf, Cond.instanceMethod yX5_cutOf, Cond.selects RX5 yX5_cutOf yX5_cutOf, Cond.code yX5_cutOf cX5_cutOf 9 (some (.array .int))]
def wsL_agrees_r6 : List Cond := [Cond.arrayClass .int, Cond.fieldLink RX5 16 "PaperMachineLaw$Mill" "width" "[I", Cond.fieldLink RX5 25 "PaperMachineLaw$Mill" "machine" "I", Cond.static yL_best, Cond.code yL_best cL_best 11 (some (.array .int)), Cond.methodLink RL 9 Lib.Math.min.name, Cond.static Lib.Math.min.name, Cond.initialized "java/lang/Math", Cond.code Lib.Math.min.name Lib.Math.min.code 2 (some .int), Cond.methodLink RL 92 yX4_trim, Cond.instanceMethod yX4_trim, Cond.selects RX4 yX4_trim yX4_trim, Cond.code yX4_trim cX4_trim 2 (some .int), Cond.fieldLink RX4 34 "PaperMachine" "cutter" "LPaperMachine$Cutter;", Cond.fieldLink RX4 13 "PaperMachine" "machineWidth" "I", Cond.methodLink RX4 151 yX1_load, Cond.instanceMethod yX1_load, Cond.selects RX1 yX1_load yX1_load, Cond.initialized RX1, Cond.code yX1_load cX1_load 7 none, Cond.methodLink RX1 30 Lib.Math.min.name, Cond.methodLink RX1 36 Lib.Math.max.name, Cond.static Lib.Math.max.name, Cond.code Lib.Math.max.name Lib.Math.max.code 2 (some .int)]
def wsL_agrees_r7 : List Cond := [Cond.fieldLink RX1 39 "PaperMachine$Cutter" "room" "I", Cond.fieldLink RX1 49 "PaperMachine$OrderBook" "grades" "[I", Cond.fieldLink RX1 18 "PaperMachine$Cutter" "widths" "[I", Cond.fieldLink RX1 52 "PaperMachine$OrderBook" "widths" "[I", Cond.fieldLink RX1 21 "PaperMachine$Cutter" "mostRolls" "[I", Cond.fieldLink RX1 53 "PaperMachine$OrderBook" "lacking" "[I", Cond.fieldLink RX1 24 "PaperMachine$Cutter" "widestFrom" "[I", Cond.methodLink RX1 43 yX3_has, Cond.methodLink RX4 155 yX1_sumBySearch, Cond.instanceMethod yX1_sumBySearch, Cond.selects RX1 yX1_sumBySearch yX1_sumBySearch, Cond.code yX1_sumBySearch cX1_sumBySearch 1 (some .int), Cond.fieldLink RX1 56 "PaperMachine$Cutter" "bestSum" "I", Cond.fieldLink RX1 9 "PaperMachine$Cutter" "best" "[I", Cond.methodLink RX1 59 yJ7_fill_53178, Cond.static yJ7_fill_53178, Cond.initialized RJ7, Cond.code yJ7_fill_53178 cJ7_fill_53178 4 none, Cond.methodLink RX1 65 yX1_search, Cond.static yX1_search, Cond.code yX1_search cX1_search 7 none, Cond.fieldLink RX1 15 "PaperMachine$Cutter" "trial" "[I", Cond.methodLink RX1 69 yX1_keepIfGreater, Cond.instanceMethod yX1_keepIfGreater]
def wsL_agrees_r8 : List Cond := [Cond.selects RX1 yX1_keepIfGreater yX1_keepIfGreater, Cond.code yX1_keepIfGreater cX1_keepIfGreater 2 none, Cond.methodLink RX1 73 arraycopyName, Cond.native arraycopyName, Cond.static arraycopyName, Cond.initialized "java/lang/System", Cond.methodLink RL 98 yX5_sumOf, Cond.instanceMethod yX5_sumOf, Cond.selects RX5 yX5_sumOf yX5_sumOf, Cond.code yX5_sumOf cX5_sumOf 4 (some .int), Cond.methodLink RL 102 yX4_made, Cond.instanceMethod yX4_made, Cond.selects RX4 yX4_made yX4_made, Cond.code yX4_made cX4_made 2 (some .char), Cond.fieldLink RX4 222 "PaperMachine$HourBook" "kinds" "[C", Cond.methodLink RX4 219 yX2_has, Cond.instanceMethod yX2_has, Cond.selects RX2 yX2_has yX2_has, Cond.code yX2_has cX2_has 2 (some .boolean), Cond.methodLink RL 113 yX4_grade, Cond.instanceMethod yX4_grade, Cond.selects RX4 yX4_grade yX4_grade, Cond.code yX4_grade cX4_grade 1 (some .int), Cond.methodLink RL 116 yX4_mass]
def wsL_agrees_r9 : List Cond := [Cond.instanceMethod yX4_mass, Cond.selects RX4 yX4_mass yX4_mass, Cond.code yX4_mass cX4_mass 2 (some .int), Cond.methodLink RX4 118 yX4_massOfAnHour, Cond.instanceMethod yX4_massOfAnHour, Cond.selects RX4 yX4_massOfAnHour yX4_massOfAnHour, Cond.code yX4_massOfAnHour cX4_massOfAnHour 2 (some .int), Cond.methodLink RL 124 yX4_paperShare, Cond.instanceMethod yX4_paperShare, Cond.selects RX4 yX4_paperShare yX4_paperShare, Cond.code yX4_paperShare cX4_paperShare 1 (some .float), Cond.classLink RX4 232 "java/lang/ArithmeticException", Cond.initialized "java/lang/ArithmeticException", Cond.fieldLink RX4 229 "PaperMachine$HourBook" "massSum" "J", Cond.methodLink RL 131 yX4_meanTrim, Cond.instanceMethod yX4_meanTrim, Cond.selects RX4 yX4_meanTrim yX4_meanTrim, Cond.code yX4_meanTrim cX4_meanTrim 1 (some .double), Cond.fieldLink RX4 237 "PaperMachine$HourBook" "paperHours" "I", Cond.fieldLink RX4 242 "PaperMachine$HourBook" "trimSum" "J"]
def wsL_agrees : List Cond := .code yL_agrees cL_agrees 4 (some .boolean) :: ((wsL_agrees_r1 ++ (wsL_agrees_r2 ++ (wsL_agrees_r3 ++ (wsL_agrees_r4 ++ (wsL_agrees_r5 ++ (wsL_agrees_r6 ++ (wsL_agrees_r7 ++ (wsL_agrees_r8 ++ wsL_agrees_r9)))))))) ++ wsX50 ++ wsX40 ++ wsX20 ++ wsX30 ++ wsX10 ++ (nx_atS RX4 111 "java/util/NoSuchElementException" ["java/lang/RuntimeException", "java/lang/Exception"]).filter goodWord ++ (vx_atS RX4 93 "java/lang/IndexOutOfBoundsException" ["java/lang/RuntimeException", "java/lang/Exception"]).filter goodWord ++ (vx_atS RX4 236 "java/lang/ArithmeticException" ["java/lang/RuntimeException", "java/lang/Exception"]).filter goodWord)
def wsL_acts_r1 : List Cond := [Cond.methodLink RL 9 Lib.Math.min.name, Cond.static Lib.Math.min.name, Cond.initialized "java/lang/Math", Cond.code Lib.Math.min.name Lib.Math.min.code 2 (some .int), Cond.methodLink RL 150 Lib.Math.abs.name, Cond.static Lib.Math.abs.name, Cond.code Lib.Math.abs.name Lib.Math.abs.code 1 (some .int), Cond.methodLink RL 178 Lib.Math.max.name, Cond.static Lib.Math.max.name, Cond.code Lib.Math.max.name Lib.Math.max.code 2 (some .int), Cond.methodLink RL 138 yL_low, Cond.static yL_low, Cond.initialized RL, Cond.code yL_low cL_low 2 (some .int), Cond.constant RL 8 (2147483647), Cond.methodLink RL 146 yX4_order, Cond.instanceMethod yX4_order, Cond.selects RX4 yX4_order yX4_order, Cond.initialized RX4, Cond.code yX4_order cX4_order 4 (some .int), Cond.classLink RX4 89 "java/lang/IndexOutOfBoundsException", Cond.initialized "java/lang/IndexOutOfBoundsException", Cond.classLink RX4 63 "java/lang/IllegalArgumentException", Cond.initialized "java/lang/IllegalArgumentException"]
def wsL_acts_r2 : List Cond := [Cond.classLink RX4 123 "java/lang/UnsupportedOperationException", Cond.initialized "java/lang/UnsupportedOperationException", Cond.classLink RX4 73 "java/lang/IllegalStateException", Cond.initialized "java/lang/IllegalStateException", Cond.fieldLink RX4 13 "PaperMachine" "machineWidth" "I", Cond.fieldLink RX4 27 "PaperMachine" "orderBook" "LPaperMachine$OrderBook;", Cond.methodLink RX4 86 yX4_isGrade, Cond.instanceMethod yX4_isGrade, Cond.selects RX4 yX4_isGrade yX4_isGrade, Cond.code yX4_isGrade cX4_isGrade 2 (some .boolean), Cond.fieldLink RX4 70 "PaperMachine" "gradeCount" "I", Cond.methodLink RX4 55 yX4_isWithin, Cond.static yX4_isWithin, Cond.code yX4_isWithin cX4_isWithin 3 (some .boolean), Cond.methodLink RX4 128 yX3_isFull, Cond.instanceMethod yX3_isFull, Cond.selects RX3 yX3_isFull yX3_isFull, Cond.initialized RX3, Cond.code yX3_isFull cX3_isFull 1 (some .boolean), Cond.fieldLink RX3 24 "PaperMachine$OrderBook" "count" "I", Cond.methodLink RX4 134 yX3_write, Cond.instanceMethod yX3_write, Cond.selects RX3 yX3_write yX3_write, Cond.code yX3_write cX3_write 5 (some .int)]
def wsL_acts_r3 : List Cond := [Cond.fieldLink RX3 9 "PaperMachine$OrderBook" "grades" "[I", Cond.fieldLink RX3 15 "PaperMachine$OrderBook" "widths" "[I", Cond.fieldLink RX3 18 "PaperMachine$OrderBook" "rollsCut" "[I", Cond.fieldLink RX3 21 "PaperMachine$OrderBook" "lacking" "[I", Cond.methodLink RX3 28 yX3_isFull, Cond.methodLink RL 157 yX4_change, Cond.instanceMethod yX4_change, Cond.selects RX4 yX4_change yX4_change, Cond.code yX4_change cX4_change 4 (some .int), Cond.fieldLink RX4 17 "PaperMachine" "machineGrade" "I", Cond.fieldLink RX4 96 "PaperMachine" "changeHours" "I", Cond.fieldLink RX4 9 "PaperMachine" "weights" "[I", Cond.methodLink RX4 101 Lib.Math.abs.name, Cond.fieldLink RX4 20 "PaperMachine" "upward" "Z", Cond.methodLink RL 163 yX4_setShare, Cond.instanceMethod yX4_setShare, Cond.selects RX4 yX4_setShare yX4_setShare, Cond.code yX4_setShare cX4_setShare 3 (some .int), Cond.fieldLink RX4 52 "PaperMachine" "share" "I", Cond.methodLink RL 175 yX4_setContract, Cond.instanceMethod yX4_setContract, Cond.selects RX4 yX4_setContract yX4_setContract, Cond.code yX4_setContract cX4_setContract 5 (some .int), Cond.fieldLink RX4 41 "PaperMachine" "contract" "LPaperMachine$Contract;"]
def wsL_acts_r4 : List Cond := [Cond.fieldLink RX4 184 "PaperMachine$Contract" "limit" "I", Cond.fieldLink RX4 187 "PaperMachine$Contract" "firstPrice" "I", Cond.fieldLink RX4 190 "PaperMachine$Contract" "secondPrice" "I", Cond.methodLink RL 181 yX4_setWidth, Cond.instanceMethod yX4_setWidth, Cond.selects RX4 yX4_setWidth yX4_setWidth, Cond.code yX4_setWidth cX4_setWidth 3 (some .int), Cond.methodLink RX4 80 yX3_widestOpen, Cond.instanceMethod yX3_widestOpen, Cond.selects RX3 yX3_widestOpen yX3_widestOpen, Cond.code yX3_widestOpen cX3_widestOpen 3 (some .int), Cond.methodLink RX3 32 Lib.Math.max.name, Cond.methodLink RL 184 yX5_passes, Cond.instanceMethod yX5_passes, Cond.selects RX5 yX5_passes yX5_passes, Cond.initialized RX5, Cond.code yX5_passes cX5_passes 5 (some .int), Cond.fieldLink RX5 86 "PaperMachineLaw$Mill" "hours" "I", Cond.fieldLink RX5 89 "PaperMachineLaw$Mill" "last" "C", Cond.fieldLink RX5 29 "PaperMachineLaw$Mill" "now" "I", Cond.fieldLink RX5 93 "PaperMachineLaw$Mill" "changing" "I", Cond.fieldLink RX5 25 "PaperMachineLaw$Mill" "machine" "I", Cond.fieldLink RX5 58 "PaperMachineLaw$Mill" "orders" "I", Cond.fieldLink RX5 22 "PaperMachineLaw$Mill" "cut" "[I"]
def wsL_acts_r5 : List Cond := [Cond.fieldLink RX5 19 "PaperMachineLaw$Mill" "lacks" "[I", Cond.fieldLink RX5 108 "PaperMachineLaw$Mill" "papers" "I", Cond.fieldLink RX5 111 "PaperMachineLaw$Mill" "trims" "I", Cond.methodLink RX5 96 yX5_makes, Cond.instanceMethod yX5_makes, Cond.selects RX5 yX5_makes yX5_makes, Cond.code yX5_makes cX5_makes 6 none, Cond.fieldLink RX5 7 "PaperMachineLaw$Mill" "weight" "[I", Cond.fieldLink RX5 36 "PaperMachineLaw$Mill" "share" "I", Cond.methodLink RX5 71 Lib.Math.min.name, Cond.fieldLink RX5 77 "PaperMachineLaw$Mill" "made" "J", Cond.fieldLink RX5 55 "PaperMachineLaw$Mill" "lost" "J", Cond.fieldLink RX5 48 "PaperMachineLaw$Mill" "in" "J", Cond.fieldLink RX5 52 "PaperMachineLaw$Mill" "paper" "J", Cond.fieldLink RX5 80 "PaperMachineLaw$Mill" "steam" "J", Cond.fieldLink RX5 39 "PaperMachineLaw$Mill" "limit" "I", Cond.fieldLink RX5 42 "PaperMachineLaw$Mill" "first" "I", Cond.methodLink RX5 83 Lib.Math.max.name, Cond.fieldLink RX5 45 "PaperMachineLaw$Mill" "second" "I", Cond.methodLink RX5 67 yX5_broke, Cond.instanceMethod yX5_broke, Cond.selects RX5 yX5_broke yX5_broke, Cond.code yX5_broke cX5_broke 1 (some .int), Cond.methodLink RX5 100 yX5_cutOf]
def wsL_acts_r6 : List Cond := [Cond.instanceMethod yX5_cutOf, Cond.selects RX5 yX5_cutOf yX5_cutOf, Cond.code yX5_cutOf cX5_cutOf 9 (some (.array .int)), Cond.arrayClass .int, Cond.fieldLink RX5 13 "PaperMachineLaw$Mill" "grade" "[I", Cond.fieldLink RX5 16 "PaperMachineLaw$Mill" "width" "[I", Cond.static yL_best, Cond.code yL_best cL_best 11 (some (.array .int)), Cond.methodLink RX5 104 yX5_sumOf, Cond.instanceMethod yX5_sumOf, Cond.selects RX5 yX5_sumOf yX5_sumOf, Cond.code yX5_sumOf cX5_sumOf 4 (some .int), Cond.methodLink RL 187 yX4_pass, Cond.instanceMethod yX4_pass, Cond.selects RX4 yX4_pass yX4_pass, Cond.code yX4_pass cX4_pass 4 (some .int), Cond.fieldLink RX4 48 "PaperMachine" "hourBook" "LPaperMachine$HourBook;", Cond.fieldLink RX4 195 "PaperMachine$HourBook" "count" "I", Cond.methodLink RX4 200 yX4_passAnHour, Cond.instanceMethod yX4_passAnHour, Cond.selects RX4 yX4_passAnHour yX4_passAnHour, Cond.code yX4_passAnHour cX4_passAnHour 4 (some .int), Cond.fieldLink RX4 34 "PaperMachine" "cutter" "LPaperMachine$Cutter;", Cond.fieldLink RX4 164 "PaperMachine$Cutter" "best" "[I"]
def wsL_acts_r7 : List Cond := [Cond.methodLink RX4 245 yX2_writeNothing, Cond.instanceMethod yX2_writeNothing, Cond.selects RX2 yX2_writeNothing yX2_writeNothing, Cond.initialized RX2, Cond.code yX2_writeNothing cX2_writeNothing 1 none, Cond.methodLink RX2 29 yX2_writeMade, Cond.instanceMethod yX2_writeMade, Cond.selects RX2 yX2_writeMade yX2_writeMade, Cond.code yX2_writeMade cX2_writeMade 5 none, Cond.fieldLink RX2 25 "PaperMachine$HourBook" "count" "I", Cond.fieldLink RX2 9 "PaperMachine$HourBook" "kinds" "[C", Cond.fieldLink RX2 15 "PaperMachine$HourBook" "freshIn" "[I", Cond.fieldLink RX2 19 "PaperMachine$HourBook" "paperOut" "[I", Cond.fieldLink RX2 22 "PaperMachine$HourBook" "lossOut" "[I", Cond.fieldLink RX2 33 "PaperMachine$HourBook" "freshSum" "J", Cond.fieldLink RX2 37 "PaperMachine$HourBook" "paperSum" "J", Cond.fieldLink RX2 40 "PaperMachine$HourBook" "lossSum" "J", Cond.methodLink RX4 118 yX4_massOfAnHour, Cond.instanceMethod yX4_massOfAnHour, Cond.selects RX4 yX4_massOfAnHour yX4_massOfAnHour, Cond.code yX4_massOfAnHour cX4_massOfAnHour 2 (some .int), Cond.methodLink RX4 248 yX4_make, Cond.instanceMethod yX4_make, Cond.selects RX4 yX4_make yX4_make]
def wsL_acts_r8 : List Cond := [Cond.code yX4_make cX4_make 7 none, Cond.fieldLink RX4 203 "PaperMachine" "brokeKept" "I", Cond.methodLink RX4 263 Lib.Math.min.name, Cond.fieldLink RX4 229 "PaperMachine$HourBook" "massSum" "J", Cond.fieldLink RX4 226 "PaperMachine" "steamSum" "J", Cond.methodLink RX4 266 yX2_writeMade, Cond.methodLink RX4 270 yX0_cost, Cond.instanceMethod yX0_cost, Cond.selects RX0 yX0_cost yX0_cost, Cond.initialized RX0, Cond.code yX0_cost cX0_cost 3 (some .long), Cond.fieldLink RX0 7 "PaperMachine$Contract" "limit" "I", Cond.methodLink RX0 19 Lib.Math.min.name, Cond.fieldLink RX0 13 "PaperMachine$Contract" "firstPrice" "I", Cond.fieldLink RX0 16 "PaperMachine$Contract" "secondPrice" "I", Cond.methodLink RX4 151 yX1_load, Cond.instanceMethod yX1_load, Cond.selects RX1 yX1_load yX1_load, Cond.initialized RX1, Cond.code yX1_load cX1_load 7 none, Cond.methodLink RX1 30 Lib.Math.min.name, Cond.methodLink RX1 36 Lib.Math.max.name, Cond.fieldLink RX1 39 "PaperMachine$Cutter" "room" "I", Cond.fieldLink RX1 49 "PaperMachine$OrderBook" "grades" "[I"]
def wsL_acts_r9 : List Cond := [Cond.fieldLink RX1 18 "PaperMachine$Cutter" "widths" "[I", Cond.fieldLink RX1 52 "PaperMachine$OrderBook" "widths" "[I", Cond.fieldLink RX1 21 "PaperMachine$Cutter" "mostRolls" "[I", Cond.fieldLink RX1 53 "PaperMachine$OrderBook" "lacking" "[I", Cond.fieldLink RX1 24 "PaperMachine$Cutter" "widestFrom" "[I", Cond.methodLink RX1 43 yX3_has, Cond.instanceMethod yX3_has, Cond.selects RX3 yX3_has yX3_has, Cond.code yX3_has cX3_has 2 (some .boolean), Cond.methodLink RX4 155 yX1_sumBySearch, Cond.instanceMethod yX1_sumBySearch, Cond.selects RX1 yX1_sumBySearch yX1_sumBySearch, Cond.code yX1_sumBySearch cX1_sumBySearch 1 (some .int), Cond.fieldLink RX1 56 "PaperMachine$Cutter" "bestSum" "I", Cond.fieldLink RX1 9 "PaperMachine$Cutter" "best" "[I", Cond.methodLink RX1 59 yJ7_fill_53178, Cond.static yJ7_fill_53178, Cond.initialized RJ7, Cond.code yJ7_fill_53178 cJ7_fill_53178 4 none, Cond.methodLink RX1 65 yX1_search, Cond.static yX1_search, Cond.code yX1_search cX1_search 7 none, Cond.fieldLink RX1 15 "PaperMachine$Cutter" "trial" "[I", Cond.methodLink RX1 69 yX1_keepIfGreater]
def wsL_acts_r10 : List Cond := [Cond.instanceMethod yX1_keepIfGreater, Cond.selects RX1 yX1_keepIfGreater yX1_keepIfGreater, Cond.code yX1_keepIfGreater cX1_keepIfGreater 2 none, Cond.methodLink RX1 73 arraycopyName, Cond.native arraycopyName, Cond.static arraycopyName, Cond.initialized "java/lang/System", Cond.methodLink RX4 252 yX4_quotient, Cond.static yX4_quotient, Cond.code yX4_quotient cX4_quotient 2 (some .int), Cond.methodLink RX4 255 yX2_writeTrim, Cond.instanceMethod yX2_writeTrim, Cond.selects RX2 yX2_writeTrim yX2_writeTrim, Cond.code yX2_writeTrim cX2_writeTrim 2 none, Cond.fieldLink RX2 43 "PaperMachine$HourBook" "trimSum" "J", Cond.fieldLink RX2 46 "PaperMachine$HourBook" "paperHours" "I", Cond.methodLink RX4 259 yX3_takeOff, Cond.instanceMethod yX3_takeOff, Cond.selects RX3 yX3_takeOff yX3_takeOff, Cond.code yX3_takeOff cX3_takeOff 4 (some .int)]
def wsL_acts : List Cond := .code yL_acts cL_acts 6 (some .boolean) :: ((wsL_acts_r1 ++ (wsL_acts_r2 ++ (wsL_acts_r3 ++ (wsL_acts_r4 ++ (wsL_acts_r5 ++ (wsL_acts_r6 ++ (wsL_acts_r7 ++ (wsL_acts_r8 ++ (wsL_acts_r9 ++ wsL_acts_r10))))))))) ++ wsX50 ++ wsX40 ++ wsX30 ++ wsX00 ++ wsX20 ++ wsX10 ++ (vx_atS RX4 93 "java/lang/IndexOutOfBoundsException" ["java/lang/RuntimeException", "java/lang/Exception"]).filter goodWord ++ (vx_atS RX4 67 "java/lang/IllegalArgumentException" ["java/lang/RuntimeException", "java/lang/Exception"]).filter goodWord ++ (vx_atS RX4 127 "java/lang/UnsupportedOperationException" ["java/lang/RuntimeException", "java/lang/Exception"]).filter goodWord ++ (vx_atS RX4 77 "java/lang/IllegalStateException" ["java/lang/RuntimeException", "java/lang/Exception"]).filter goodWord)
def wsL_law0_r1 : List Cond := [Cond.classLink RL 16 RX4, Cond.instantiable RX4 13, Cond.initialized RX4, Cond.classLink RL 27 RX5, Cond.instantiable RX5 23, Cond.initialized RX5, Cond.methodLink RL 190 yX4_init, Cond.instanceMethod yX4_init, Cond.code yX4_init cX4_init 1 none, Cond.methodLink RX4 1 objectInit, Cond.instanceMethod objectInit, Cond.code objectInit ⟨#[0xb1]⟩ 1 none, Cond.arrayClass .int, Cond.fieldLink RX4 9 "PaperMachine" "weights" "[I", Cond.fieldLink RX4 13 "PaperMachine" "machineWidth" "I", Cond.fieldLink RX4 17 "PaperMachine" "machineGrade" "I", Cond.fieldLink RX4 20 "PaperMachine" "upward" "Z", Cond.classLink RX4 24 RX3, Cond.instantiable RX3 5, Cond.initialized RX3, Cond.fieldLink RX4 27 "PaperMachine" "orderBook" "LPaperMachine$OrderBook;", Cond.classLink RX4 31 RX1, Cond.instantiable RX1 8, Cond.initialized RX1]
def wsL_law0_r2 : List Cond := [Cond.fieldLink RX4 34 "PaperMachine" "cutter" "LPaperMachine$Cutter;", Cond.classLink RX4 38 RX0, Cond.instantiable RX0 3, Cond.initialized RX0, Cond.fieldLink RX4 41 "PaperMachine" "contract" "LPaperMachine$Contract;", Cond.classLink RX4 45 RX2, Cond.instantiable RX2 11, Cond.initialized RX2, Cond.fieldLink RX4 48 "PaperMachine" "hourBook" "LPaperMachine$HourBook;", Cond.fieldLink RX4 52 "PaperMachine" "share" "I", Cond.instanceMethod yX3_init, Cond.code yX3_init cX3_init 1 none, Cond.methodLink RX3 3 objectInit, Cond.fieldLink RX3 9 "PaperMachine$OrderBook" "grades" "[I", Cond.fieldLink RX3 15 "PaperMachine$OrderBook" "widths" "[I", Cond.fieldLink RX3 18 "PaperMachine$OrderBook" "rollsCut" "[I", Cond.fieldLink RX3 21 "PaperMachine$OrderBook" "lacking" "[I", Cond.instanceMethod yX1_init, Cond.code yX1_init cX1_init 1 none, Cond.methodLink RX1 3 objectInit, Cond.fieldLink RX1 9 "PaperMachine$Cutter" "best" "[I", Cond.fieldLink RX1 15 "PaperMachine$Cutter" "trial" "[I", Cond.fieldLink RX1 18 "PaperMachine$Cutter" "widths" "[I", Cond.fieldLink RX1 21 "PaperMachine$Cutter" "mostRolls" "[I"]
def wsL_law0_r3 : List Cond := [Cond.fieldLink RX1 24 "PaperMachine$Cutter" "widestFrom" "[I", Cond.fieldLink RX1 27 "PaperMachine$Cutter" "fewest" "[I", Cond.instanceMethod yX0_init, Cond.code yX0_init cX0_init 1 none, Cond.methodLink RX0 1 objectInit, Cond.fieldLink RX0 7 "PaperMachine$Contract" "limit" "I", Cond.fieldLink RX0 13 "PaperMachine$Contract" "firstPrice" "I", Cond.fieldLink RX0 16 "PaperMachine$Contract" "secondPrice" "I", Cond.instanceMethod yX2_init, Cond.code yX2_init cX2_init 1 none, Cond.methodLink RX2 3 objectInit, Cond.arrayClass .char, Cond.fieldLink RX2 9 "PaperMachine$HourBook" "kinds" "[C", Cond.fieldLink RX2 15 "PaperMachine$HourBook" "freshIn" "[I", Cond.fieldLink RX2 19 "PaperMachine$HourBook" "paperOut" "[I", Cond.fieldLink RX2 22 "PaperMachine$HourBook" "lossOut" "[I", Cond.instanceMethod yX5_init, Cond.code yX5_init cX5_init 1 none, Cond.methodLink RX5 1 objectInit, Cond.fieldLink RX5 7 "PaperMachineLaw$Mill" "weight" "[I", Cond.fieldLink RX5 13 "PaperMachineLaw$Mill" "grade" "[I", Cond.fieldLink RX5 16 "PaperMachineLaw$Mill" "width" "[I", Cond.fieldLink RX5 19 "PaperMachineLaw$Mill" "lacks" "[I", Cond.fieldLink RX5 22 "PaperMachineLaw$Mill" "cut" "[I"]
def wsL_law0_r4 : List Cond := [Cond.fieldLink RX5 25 "PaperMachineLaw$Mill" "machine" "I", Cond.fieldLink RX5 29 "PaperMachineLaw$Mill" "now" "I", Cond.fieldLink RX5 32 "PaperMachineLaw$Mill" "isUp" "Z", Cond.fieldLink RX5 36 "PaperMachineLaw$Mill" "share" "I", Cond.fieldLink RX5 39 "PaperMachineLaw$Mill" "limit" "I", Cond.fieldLink RX5 42 "PaperMachineLaw$Mill" "first" "I", Cond.fieldLink RX5 45 "PaperMachineLaw$Mill" "second" "I", Cond.methodLink RL 192 yL_cell, Cond.static yL_cell, Cond.initialized RL, Cond.code yL_cell cL_cell 2 (some .int), Cond.constant RL 7 (40503), Cond.methodLink RL 138 yL_low, Cond.static yL_low, Cond.code yL_low cL_low 2 (some .int), Cond.constant RL 8 (2147483647), Cond.methodLink RL 196 yX4_addGrade, Cond.instanceMethod yX4_addGrade, Cond.selects RX4 yX4_addGrade yX4_addGrade, Cond.code yX4_addGrade cX4_addGrade 3 (some .int), Cond.classLink RX4 63 "java/lang/IllegalArgumentException", Cond.initialized "java/lang/IllegalArgumentException", Cond.classLink RX4 73 "java/lang/IllegalStateException", Cond.initialized "java/lang/IllegalStateException"]
def wsL_law0_r5 : List Cond := [Cond.fieldLink RX4 70 "PaperMachine" "gradeCount" "I", Cond.methodLink RX4 55 yX4_isWithin, Cond.static yX4_isWithin, Cond.code yX4_isWithin cX4_isWithin 3 (some .boolean), Cond.methodLink RX4 59 yX4_isWeightTaken, Cond.instanceMethod yX4_isWeightTaken, Cond.selects RX4 yX4_isWeightTaken yX4_isWeightTaken, Cond.code yX4_isWeightTaken cX4_isWeightTaken 3 (some .boolean), Cond.methodLink RL 199 yL_acts, Cond.static yL_acts, Cond.code yL_acts cL_acts 6 (some .boolean), Cond.methodLink RL 9 Lib.Math.min.name, Cond.static Lib.Math.min.name, Cond.initialized "java/lang/Math", Cond.code Lib.Math.min.name Lib.Math.min.code 2 (some .int), Cond.methodLink RL 150 Lib.Math.abs.name, Cond.static Lib.Math.abs.name, Cond.code Lib.Math.abs.name Lib.Math.abs.code 1 (some .int), Cond.methodLink RL 178 Lib.Math.max.name, Cond.static Lib.Math.max.name, Cond.code Lib.Math.max.name Lib.Math.max.code 2 (some .int), Cond.methodLink RL 146 yX4_order, Cond.instanceMethod yX4_order, Cond.selects RX4 yX4_order yX4_order]
def wsL_law0_r6 : List Cond := [Cond.code yX4_order cX4_order 4 (some .int), Cond.classLink RX4 89 "java/lang/IndexOutOfBoundsException", Cond.initialized "java/lang/IndexOutOfBoundsException", Cond.classLink RX4 123 "java/lang/UnsupportedOperationException", Cond.initialized "java/lang/UnsupportedOperationException", Cond.methodLink RX4 86 yX4_isGrade, Cond.instanceMethod yX4_isGrade, Cond.selects RX4 yX4_isGrade yX4_isGrade, Cond.code yX4_isGrade cX4_isGrade 2 (some .boolean), Cond.methodLink RX4 128 yX3_isFull, Cond.instanceMethod yX3_isFull, Cond.selects RX3 yX3_isFull yX3_isFull, Cond.code yX3_isFull cX3_isFull 1 (some .boolean), Cond.fieldLink RX3 24 "PaperMachine$OrderBook" "count" "I", Cond.methodLink RX4 134 yX3_write, Cond.instanceMethod yX3_write, Cond.selects RX3 yX3_write yX3_write, Cond.code yX3_write cX3_write 5 (some .int), Cond.methodLink RX3 28 yX3_isFull, Cond.methodLink RL 157 yX4_change, Cond.instanceMethod yX4_change, Cond.selects RX4 yX4_change yX4_change, Cond.code yX4_change cX4_change 4 (some .int), Cond.fieldLink RX4 96 "PaperMachine" "changeHours" "I"]
def wsL_law0_r7 : List Cond := [Cond.methodLink RX4 101 Lib.Math.abs.name, Cond.methodLink RL 163 yX4_setShare, Cond.instanceMethod yX4_setShare, Cond.selects RX4 yX4_setShare yX4_setShare, Cond.code yX4_setShare cX4_setShare 3 (some .int), Cond.methodLink RL 175 yX4_setContract, Cond.instanceMethod yX4_setContract, Cond.selects RX4 yX4_setContract yX4_setContract, Cond.code yX4_setContract cX4_setContract 5 (some .int), Cond.fieldLink RX4 184 "PaperMachine$Contract" "limit" "I", Cond.fieldLink RX4 187 "PaperMachine$Contract" "firstPrice" "I", Cond.fieldLink RX4 190 "PaperMachine$Contract" "secondPrice" "I", Cond.methodLink RL 181 yX4_setWidth, Cond.instanceMethod yX4_setWidth, Cond.selects RX4 yX4_setWidth yX4_setWidth, Cond.code yX4_setWidth cX4_setWidth 3 (some .int), Cond.methodLink RX4 80 yX3_widestOpen, Cond.instanceMethod yX3_widestOpen, Cond.selects RX3 yX3_widestOpen yX3_widestOpen, Cond.code yX3_widestOpen cX3_widestOpen 3 (some .int), Cond.methodLink RX3 32 Lib.Math.max.name, Cond.methodLink RL 184 yX5_passes, Cond.instanceMethod yX5_passes, Cond.selects RX5 yX5_passes yX5_passes]
def wsL_law0_r8 : List Cond := [Cond.code yX5_passes cX5_passes 5 (some .int), Cond.fieldLink RX5 86 "PaperMachineLaw$Mill" "hours" "I", Cond.fieldLink RX5 89 "PaperMachineLaw$Mill" "last" "C", Cond.fieldLink RX5 93 "PaperMachineLaw$Mill" "changing" "I", Cond.fieldLink RX5 58 "PaperMachineLaw$Mill" "orders" "I", Cond.fieldLink RX5 108 "PaperMachineLaw$Mill" "papers" "I", Cond.fieldLink RX5 111 "PaperMachineLaw$Mill" "trims" "I", Cond.methodLink RX5 96 yX5_makes, Cond.instanceMethod yX5_makes, Cond.selects RX5 yX5_makes yX5_makes, Cond.code yX5_makes cX5_makes 6 none, Cond.methodLink RX5 71 Lib.Math.min.name, Cond.fieldLink RX5 77 "PaperMachineLaw$Mill" "made" "J", Cond.fieldLink RX5 55 "PaperMachineLaw$Mill" "lost" "J", Cond.fieldLink RX5 48 "PaperMachineLaw$Mill" "in" "J", Cond.fieldLink RX5 52 "PaperMachineLaw$Mill" "paper" "J", Cond.fieldLink RX5 80 "PaperMachineLaw$Mill" "steam" "J", Cond.methodLink RX5 83 Lib.Math.max.name, Cond.methodLink RX5 67 yX5_broke, Cond.instanceMethod yX5_broke, Cond.selects RX5 yX5_broke yX5_broke, Cond.code yX5_broke cX5_broke 1 (some .int), Cond.methodLink RX5 100 yX5_cutOf, Cond.instanceMethod yX5_cutOf]
def wsL_law0_r9 : List Cond := [Cond.selects RX5 yX5_cutOf yX5_cutOf, Cond.code yX5_cutOf cX5_cutOf 9 (some (.array .int)), Cond.static yL_best, Cond.code yL_best cL_best 11 (some (.array .int)), Cond.methodLink RX5 104 yX5_sumOf, Cond.instanceMethod yX5_sumOf, Cond.selects RX5 yX5_sumOf yX5_sumOf, Cond.code yX5_sumOf cX5_sumOf 4 (some .int), Cond.methodLink RL 187 yX4_pass, Cond.instanceMethod yX4_pass, Cond.selects RX4 yX4_pass yX4_pass, Cond.code yX4_pass cX4_pass 4 (some .int), Cond.fieldLink RX4 195 "PaperMachine$HourBook" "count" "I", Cond.methodLink RX4 200 yX4_passAnHour, Cond.instanceMethod yX4_passAnHour, Cond.selects RX4 yX4_passAnHour yX4_passAnHour, Cond.code yX4_passAnHour cX4_passAnHour 4 (some .int), Cond.fieldLink RX4 164 "PaperMachine$Cutter" "best" "[I", Cond.methodLink RX4 245 yX2_writeNothing, Cond.instanceMethod yX2_writeNothing, Cond.selects RX2 yX2_writeNothing yX2_writeNothing, Cond.code yX2_writeNothing cX2_writeNothing 1 none, Cond.methodLink RX2 29 yX2_writeMade, Cond.instanceMethod yX2_writeMade]
def wsL_law0_r10 : List Cond := [Cond.selects RX2 yX2_writeMade yX2_writeMade, Cond.code yX2_writeMade cX2_writeMade 5 none, Cond.fieldLink RX2 25 "PaperMachine$HourBook" "count" "I", Cond.fieldLink RX2 33 "PaperMachine$HourBook" "freshSum" "J", Cond.fieldLink RX2 37 "PaperMachine$HourBook" "paperSum" "J", Cond.fieldLink RX2 40 "PaperMachine$HourBook" "lossSum" "J", Cond.methodLink RX4 118 yX4_massOfAnHour, Cond.instanceMethod yX4_massOfAnHour, Cond.selects RX4 yX4_massOfAnHour yX4_massOfAnHour, Cond.code yX4_massOfAnHour cX4_massOfAnHour 2 (some .int), Cond.methodLink RX4 248 yX4_make, Cond.instanceMethod yX4_make, Cond.selects RX4 yX4_make yX4_make, Cond.code yX4_make cX4_make 7 none, Cond.fieldLink RX4 203 "PaperMachine" "brokeKept" "I", Cond.methodLink RX4 263 Lib.Math.min.name, Cond.fieldLink RX4 229 "PaperMachine$HourBook" "massSum" "J", Cond.fieldLink RX4 226 "PaperMachine" "steamSum" "J", Cond.methodLink RX4 266 yX2_writeMade, Cond.methodLink RX4 270 yX0_cost, Cond.instanceMethod yX0_cost, Cond.selects RX0 yX0_cost yX0_cost, Cond.code yX0_cost cX0_cost 3 (some .long), Cond.methodLink RX0 19 Lib.Math.min.name]
def wsL_law0_r11 : List Cond := [Cond.methodLink RX4 151 yX1_load, Cond.instanceMethod yX1_load, Cond.selects RX1 yX1_load yX1_load, Cond.code yX1_load cX1_load 7 none, Cond.methodLink RX1 30 Lib.Math.min.name, Cond.methodLink RX1 36 Lib.Math.max.name, Cond.fieldLink RX1 39 "PaperMachine$Cutter" "room" "I", Cond.fieldLink RX1 49 "PaperMachine$OrderBook" "grades" "[I", Cond.fieldLink RX1 52 "PaperMachine$OrderBook" "widths" "[I", Cond.fieldLink RX1 53 "PaperMachine$OrderBook" "lacking" "[I", Cond.methodLink RX1 43 yX3_has, Cond.instanceMethod yX3_has, Cond.selects RX3 yX3_has yX3_has, Cond.code yX3_has cX3_has 2 (some .boolean), Cond.methodLink RX4 155 yX1_sumBySearch, Cond.instanceMethod yX1_sumBySearch, Cond.selects RX1 yX1_sumBySearch yX1_sumBySearch, Cond.code yX1_sumBySearch cX1_sumBySearch 1 (some .int), Cond.fieldLink RX1 56 "PaperMachine$Cutter" "bestSum" "I", Cond.methodLink RX1 59 yJ7_fill_53178, Cond.static yJ7_fill_53178, Cond.initialized RJ7, Cond.code yJ7_fill_53178 cJ7_fill_53178 4 none, Cond.methodLink RX1 65 yX1_search]
def wsL_law0_r12 : List Cond := [Cond.static yX1_search, Cond.code yX1_search cX1_search 7 none, Cond.methodLink RX1 69 yX1_keepIfGreater, Cond.instanceMethod yX1_keepIfGreater, Cond.selects RX1 yX1_keepIfGreater yX1_keepIfGreater, Cond.code yX1_keepIfGreater cX1_keepIfGreater 2 none, Cond.methodLink RX1 73 arraycopyName, Cond.native arraycopyName, Cond.static arraycopyName, Cond.initialized "java/lang/System", Cond.methodLink RX4 252 yX4_quotient, Cond.static yX4_quotient, Cond.code yX4_quotient cX4_quotient 2 (some .int), Cond.methodLink RX4 255 yX2_writeTrim, Cond.instanceMethod yX2_writeTrim, Cond.selects RX2 yX2_writeTrim yX2_writeTrim, Cond.code yX2_writeTrim cX2_writeTrim 2 none, Cond.fieldLink RX2 43 "PaperMachine$HourBook" "trimSum" "J", Cond.fieldLink RX2 46 "PaperMachine$HourBook" "paperHours" "I", Cond.methodLink RX4 259 yX3_takeOff, Cond.instanceMethod yX3_takeOff, Cond.selects RX3 yX3_takeOff yX3_takeOff, Cond.code yX3_takeOff cX3_takeOff 4 (some .int), Cond.methodLink RL 203 yL_agrees]
def wsL_law0_r13 : List Cond := [Cond.static yL_agrees, Cond.code yL_agrees cL_agrees 4 (some .boolean), Cond.methodLink RL 23 yX4_hours, Cond.instanceMethod yX4_hours, Cond.selects RX4 yX4_hours yX4_hours, Cond.code yX4_hours cX4_hours 1 (some .int), Cond.methodLink RL 31 yX4_changing, Cond.instanceMethod yX4_changing, Cond.selects RX4 yX4_changing yX4_changing, Cond.code yX4_changing cX4_changing 1 (some .int), Cond.methodLink RL 36 yX4_broke, Cond.instanceMethod yX4_broke, Cond.selects RX4 yX4_broke yX4_broke, Cond.code yX4_broke cX4_broke 1 (some .int), Cond.methodLink RL 39 yX5_broke, Cond.methodLink RL 40 yX4_brokeByHours, Cond.instanceMethod yX4_brokeByHours, Cond.selects RX4 yX4_brokeByHours yX4_brokeByHours, Cond.code yX4_brokeByHours cX4_brokeByHours 1 (some .int), Cond.methodLink RX4 206 yX2_fibreStillThere, Cond.instanceMethod yX2_fibreStillThere, Cond.selects RX2 yX2_fibreStillThere yX2_fibreStillThere, Cond.code yX2_fibreStillThere cX2_fibreStillThere 3 (some .int), Cond.methodLink RL 43 yX4_fresh]
def wsL_law0_r14 : List Cond := [Cond.instanceMethod yX4_fresh, Cond.selects RX4 yX4_fresh yX4_fresh, Cond.code yX4_fresh cX4_fresh 1 (some .long), Cond.fieldLink RX4 209 "PaperMachine$HourBook" "freshSum" "J", Cond.methodLink RL 51 yX4_paper, Cond.instanceMethod yX4_paper, Cond.selects RX4 yX4_paper yX4_paper, Cond.code yX4_paper cX4_paper 1 (some .long), Cond.fieldLink RX4 213 "PaperMachine$HourBook" "paperSum" "J", Cond.methodLink RL 56 yX4_lost, Cond.instanceMethod yX4_lost, Cond.selects RX4 yX4_lost yX4_lost, Cond.code yX4_lost cX4_lost 1 (some .long), Cond.fieldLink RX4 216 "PaperMachine$HourBook" "lossSum" "J", Cond.methodLink RL 61 yX4_steamCost, Cond.instanceMethod yX4_steamCost, Cond.selects RX4 yX4_steamCost yX4_steamCost, Cond.code yX4_steamCost cX4_steamCost 1 (some .long), Cond.methodLink RL 67 yL_next, Cond.static yL_next, Cond.codeWith yL_next cL_next 2 (some .int) [(0, 4, 5, 21)], Cond.classLink RL 21 "java/util/NoSuchElementException", Cond.methodLink RL 15 yX4_next, Cond.instanceMethod yX4_next]
def wsL_law0_r15 : List Cond := [Cond.selects RX4 yX4_next yX4_next, Cond.code yX4_next cX4_next 2 (some .int), Cond.classLink RX4 107 "java/util/NoSuchElementException", Cond.initialized "java/util/NoSuchElementException", Cond.methodLink RX4 112 yX4_nearestWaiting, Cond.instanceMethod yX4_nearestWaiting, Cond.selects RX4 yX4_nearestWaiting yX4_nearestWaiting, Cond.code yX4_nearestWaiting cX4_nearestWaiting 8 (some .int), Cond.methodLink RX4 174 yX3_rollsLacking, Cond.instanceMethod yX3_rollsLacking, Cond.selects RX3 yX3_rollsLacking yX3_rollsLacking, Cond.code yX3_rollsLacking cX3_rollsLacking 4 (some .int), Cond.methodLink RL 72 yX5_next, Cond.instanceMethod yX5_next, Cond.selects RX5 yX5_next yX5_next, Cond.code yX5_next cX5_next 5 (some .int), Cond.arrayClass .boolean, Cond.methodLink RL 76 yX4_lacks, Cond.instanceMethod yX4_lacks, Cond.selects RX4 yX4_lacks yX4_lacks, Cond.code yX4_lacks cX4_lacks 2 (some .int), Cond.fieldLink RX4 143 "PaperMachine$OrderBook" "lacking" "[I", Cond.methodLink RX4 138 yX3_has, Cond.methodLink RL 83 yX4_cut]
def wsL_law0_r16 : List Cond := [Cond.instanceMethod yX4_cut, Cond.selects RX4 yX4_cut yX4_cut, Cond.code yX4_cut cX4_cut 2 (some .int), Cond.fieldLink RX4 148 "PaperMachine$OrderBook" "rollsCut" "[I", Cond.methodLink RL 88 yX5_cutOf, Cond.methodLink RL 92 yX4_trim, Cond.instanceMethod yX4_trim, Cond.selects RX4 yX4_trim yX4_trim, Cond.code yX4_trim cX4_trim 2 (some .int), Cond.methodLink RL 98 yX5_sumOf, Cond.methodLink RL 102 yX4_made, Cond.instanceMethod yX4_made, Cond.selects RX4 yX4_made yX4_made, Cond.code yX4_made cX4_made 2 (some .char), Cond.fieldLink RX4 222 "PaperMachine$HourBook" "kinds" "[C", Cond.methodLink RX4 219 yX2_has, Cond.instanceMethod yX2_has, Cond.selects RX2 yX2_has yX2_has, Cond.code yX2_has cX2_has 2 (some .boolean), Cond.methodLink RL 113 yX4_grade, Cond.instanceMethod yX4_grade, Cond.selects RX4 yX4_grade yX4_grade, Cond.code yX4_grade cX4_grade 1 (some .int), Cond.methodLink RL 116 yX4_mass]
def wsL_law0_r17 : List Cond := [Cond.instanceMethod yX4_mass, Cond.selects RX4 yX4_mass yX4_mass, Cond.code yX4_mass cX4_mass 2 (some .int), Cond.methodLink RL 124 yX4_paperShare, Cond.instanceMethod yX4_paperShare, Cond.selects RX4 yX4_paperShare yX4_paperShare, Cond.code yX4_paperShare cX4_paperShare 1 (some .float), Cond.classLink RX4 232 "java/lang/ArithmeticException", Cond.initialized "java/lang/ArithmeticException", Cond.methodLink RL 131 yX4_meanTrim, Cond.instanceMethod yX4_meanTrim, Cond.selects RX4 yX4_meanTrim yX4_meanTrim, Cond.code yX4_meanTrim cX4_meanTrim 1 (some .double), Cond.fieldLink RX4 237 "PaperMachine$HourBook" "paperHours" "I", Cond.fieldLink RX4 242 "PaperMachine$HourBook" "trimSum" "J"]
def wsL_law0 : List Cond := (wsL_law0_r1 ++ (wsL_law0_r2 ++ (wsL_law0_r3 ++ (wsL_law0_r4 ++ (wsL_law0_r5 ++ (wsL_law0_r6 ++ (wsL_law0_r7 ++ (wsL_law0_r8 ++ (wsL_law0_r9 ++ (wsL_law0_r10 ++ (wsL_law0_r11 ++ (wsL_law0_r12 ++ (wsL_law0_r13 ++ (wsL_law0_r14 ++ (wsL_law0_r15 ++ (wsL_law0_r16 ++ wsL_law0_r17)))))))))))))))) ++ wsX40 ++ wsX50 ++ wsX30 ++ wsX10 ++ wsX00 ++ wsX20 ++ ([] : List Cond)
def wsL_law : List Cond := wsL_law0 ++ (vx_atS RX4 67 "java/lang/IllegalArgumentException" ["java/lang/RuntimeException", "java/lang/Exception"]).filter goodWord ++ (vx_atS RX4 77 "java/lang/IllegalStateException" ["java/lang/RuntimeException", "java/lang/Exception"]).filter goodWord ++ (vx_atS RX4 93 "java/lang/IndexOutOfBoundsException" ["java/lang/RuntimeException", "java/lang/Exception"]).filter goodWord ++ (vx_atS RX4 127 "java/lang/UnsupportedOperationException" ["java/lang/RuntimeException", "java/lang/Exception"]).filter goodWord ++ (nx_atS RX4 111 "java/util/NoSuchElementException" ["java/lang/RuntimeException", "java/lang/Exception"]).filter goodWord ++ (vx_atS RX4 236 "java/lang/ArithmeticException" ["java/lang/RuntimeException", "java/lang/Exception"]).filter goodWord
end
section
theorem sub_r {big : List Cond} (ws : List Cond) (ps : List Nat) (hp : ps.map (fun i => big[i]?) = ws.map some) : ∀ w ∈ ws, w ∈ big := by
  intro w hw
  have h1 : some w ∈ ps.map (fun i => big[i]?) := by rw [hp]; exact List.mem_map.mpr ⟨w, hw, rfl⟩
  obtain ⟨i, -, hi⟩ := List.mem_map.mp h1
  exact List.mem_of_getElem? hi
set_option maxRecDepth 100000 in
theorem wsL_law_in_r1 : ∀ w ∈ wsL_law0_r1, w ∈ lw_tbl := sub_r _ [28, 29, 10, 301, 302, 15, 30, 31, 32, 33, 34, 35, 63, 163, 165, 166, 168, 36, 37, 11, 169, 64, 65, 12] rfl
set_option maxRecDepth 100000 in
theorem wsL_law_in_r2 : ∀ w ∈ wsL_law0_r2, w ∈ lw_tbl := sub_r _ [170, 96, 97, 13, 171, 115, 116, 14, 172, 173, 39, 40, 41, 42, 44, 46, 48, 67, 68, 69, 70, 72, 73, 74] rfl
set_option maxRecDepth 100000 in
theorem wsL_law_in_r3 : ∀ w ∈ wsL_law0_r3, w ∈ lw_tbl := sub_r _ [75, 76, 99, 100, 101, 102, 104, 106, 118, 119, 120, 162, 121, 123, 124, 125, 304, 305, 306, 307, 309, 311, 313, 315] rfl
set_option maxRecDepth 100000 in
theorem wsL_law_in_r4 : ∀ w ∈ wsL_law0_r4, w ∈ lw_tbl := sub_r _ [319, 321, 325, 327, 329, 331, 333, 400, 401, 9, 402, 403, 404, 405, 406, 407, 203, 204, 205, 206, 214, 19, 285, 20] rfl
set_option maxRecDepth 100000 in
theorem wsL_law_in_r5 : ∀ w ∈ wsL_law0_r5, w ∈ lw_tbl := sub_r _ [164, 207, 208, 209, 210, 212, 0, 213, 612, 613, 614, 527, 528, 21, 529, 646, 647, 648, 666, 541, 542, 615, 616, 617] rfl
set_option maxRecDepth 100000 in
theorem wsL_law_in_r6 : ∀ w ∈ wsL_law0_r6, w ∈ lw_tbl := sub_r _ [618, 499, 22, 620, 23, 459, 461, 2, 462, 636, 637, 638, 639, 51, 641, 642, 643, 644, 645, 649, 650, 651, 652, 167] rfl
set_option maxRecDepth 100000 in
theorem wsL_law_in_r7 : ∀ w ∈ wsL_law0_r7, w ∈ lw_tbl := sub_r _ [655, 656, 657, 658, 659, 661, 662, 663, 664, 103, 105, 107, 667, 668, 669, 670, 672, 673, 674, 675, 676, 678, 679, 680] rfl
set_option maxRecDepth 100000 in
theorem wsL_law_in_r8 : ∀ w ∈ wsL_law0_r8, w ∈ lw_tbl := sub_r _ [681, 335, 351, 324, 317, 347, 349, 682, 684, 6, 685, 687, 343, 341, 337, 339, 345, 688, 686, 424, 425, 426, 689, 521] rfl
set_option maxRecDepth 100000 in
theorem wsL_law_in_r9 : ∀ w ∈ wsL_law0_r9, w ∈ lw_tbl := sub_r _ [522, 523, 525, 526, 690, 562, 563, 564, 691, 692, 693, 694, 127, 697, 699, 7, 700, 71, 701, 702, 703, 704, 705, 706] rfl
set_option maxRecDepth 100000 in
theorem wsL_law_in_r10 : ∀ w ∈ wsL_law0_r10, w ∈ lw_tbl := sub_r _ [707, 708, 126, 128, 130, 132, 583, 585, 5, 586, 709, 711, 8, 712, 174, 713, 134, 175, 714, 715, 716, 717, 718, 719] rfl
set_option maxRecDepth 100000 in
theorem wsL_law_in_r11 : ∀ w ∈ wsL_law0_r11, w ∈ lw_tbl := sub_r _ [535, 536, 537, 538, 539, 540, 77, 43, 45, 49, 543, 496, 497, 498, 544, 545, 546, 547, 78, 548, 549, 24, 550, 551] rfl
set_option maxRecDepth 100000 in
theorem wsL_law_in_r12 : ∀ w ∈ wsL_law0_r12, w ∈ lw_tbl := sub_r _ [552, 553, 554, 556, 4, 557, 558, 560, 559, 25, 720, 721, 722, 723, 724, 725, 726, 135, 137, 727, 728, 729, 730, 408] rfl
set_option maxRecDepth 100000 in
theorem wsL_law_in_r13 : ∀ w ∈ wsL_law0_r13, w ∈ lw_tbl := sub_r _ [409, 410, 411, 412, 413, 414, 415, 416, 417, 418, 419, 420, 421, 422, 423, 427, 428, 429, 430, 431, 432, 433, 434, 435] rfl
set_option maxRecDepth 100000 in
theorem wsL_law_in_r14 : ∀ w ∈ wsL_law0_r14, w ∈ lw_tbl := sub_r _ [436, 437, 438, 129, 439, 440, 441, 442, 131, 443, 444, 445, 446, 133, 447, 448, 449, 450, 451, 452, 453, 454, 455, 456] rfl
set_option maxRecDepth 100000 in
theorem wsL_law_in_r15 : ∀ w ∈ wsL_law0_r15, w ∈ lw_tbl := sub_r _ [457, 458, 471, 26, 463, 465, 3, 466, 467, 468, 469, 470, 487, 488, 489, 490, 515, 491, 492, 493, 494, 50, 495, 516] rfl
set_option maxRecDepth 100000 in
theorem wsL_law_in_r16 : ∀ w ∈ wsL_law0_r16, w ∈ lw_tbl := sub_r _ [517, 518, 519, 47, 520, 530, 531, 532, 533, 561, 565, 566, 567, 568, 122, 569, 570, 571, 572, 574, 575, 576, 577, 579] rfl
set_option maxRecDepth 100000 in
theorem wsL_law_in_r17 : ∀ w ∈ wsL_law0_r17, w ∈ lw_tbl := sub_r _ [580, 581, 582, 587, 588, 589, 590, 591, 27, 607, 608, 609, 610, 138, 136] rfl
set_option maxRecDepth 100000 in
theorem wsL_law_in_wsX40 : ∀ w ∈ wsX40, w ∈ lw_tbl := sub_r _ [176, 178, 180, 182, 184, 186, 188, 190, 192, 194, 196, 198, 200] rfl
set_option maxRecDepth 100000 in
theorem wsL_law_in_wsX50 : ∀ w ∈ wsX50, w ∈ lw_tbl := sub_r _ [353, 355, 357, 359, 361, 363, 365, 367, 369, 371, 373, 375, 377, 379, 381, 383, 385, 387, 389, 391, 393, 395, 397] rfl
set_option maxRecDepth 100000 in
theorem wsL_law_in_wsX30 : ∀ w ∈ wsX30, w ∈ lw_tbl := sub_r _ [52, 54, 56, 58, 60] rfl
set_option maxRecDepth 100000 in
theorem wsL_law_in_wsX10 : ∀ w ∈ wsX10, w ∈ lw_tbl := sub_r _ [79, 81, 83, 85, 87, 89, 91, 93] rfl
set_option maxRecDepth 100000 in
theorem wsL_law_in_wsX00 : ∀ w ∈ wsX00, w ∈ lw_tbl := sub_r _ [108, 110, 112] rfl
set_option maxRecDepth 100000 in
theorem wsL_law_in_wsX20 : ∀ w ∈ wsX20, w ∈ lw_tbl := sub_r _ [139, 141, 143, 145, 147, 149, 151, 153, 155, 157, 159] rfl
theorem wsL_law_in0 : ∀ w ∈ wsL_law0, w ∈ lw_tbl := fun w => (fun h => (List.mem_append.mp h).elim ((fun h => (List.mem_append.mp h).elim ((fun h => (List.mem_append.mp h).elim ((fun h => (List.mem_append.mp h).elim ((fun h => (List.mem_append.mp h).elim ((fun h => (List.mem_append.mp h).elim ((fun h => (List.mem_append.mp h).elim ((fun h => (List.mem_append.mp h).elim (wsL_law_in_r1 w) ((fun h => (List.mem_append.mp h).elim (wsL_law_in_r2 w) ((fun h => (List.mem_append.mp h).elim (wsL_law_in_r3 w) ((fun h => (List.mem_append.mp h).elim (wsL_law_in_r4 w) ((fun h => (List.mem_append.mp h).elim (wsL_law_in_r5 w) ((fun h => (List.mem_append.mp h).elim (wsL_law_in_r6 w) ((fun h => (List.mem_append.mp h).elim (wsL_law_in_r7 w) ((fun h => (List.mem_append.mp h).elim (wsL_law_in_r8 w) ((fun h => (List.mem_append.mp h).elim (wsL_law_in_r9 w) ((fun h => (List.mem_append.mp h).elim (wsL_law_in_r10 w) ((fun h => (List.mem_append.mp h).elim (wsL_law_in_r11 w) ((fun h => (List.mem_append.mp h).elim (wsL_law_in_r12 w) ((fun h => (List.mem_append.mp h).elim (wsL_law_in_r13 w) ((fun h => (List.mem_append.mp h).elim (wsL_law_in_r14 w) ((fun h => (List.mem_append.mp h).elim (wsL_law_in_r15 w) ((fun h => (List.mem_append.mp h).elim (wsL_law_in_r16 w) (wsL_law_in_r17 w))))))))))))))))))))))))))))))))) (wsL_law_in_wsX40 w))) (wsL_law_in_wsX50 w))) (wsL_law_in_wsX30 w))) (wsL_law_in_wsX10 w))) (wsL_law_in_wsX00 w))) (wsL_law_in_wsX20 w))) (fun h => absurd h List.not_mem_nil))
end
section
theorem wsL_law_x0 : ∀ w ∈ (vx_atS RX4 67 "java/lang/IllegalArgumentException" ["java/lang/RuntimeException", "java/lang/Exception"]).filter goodWord, w ∈ lw_tbl := by decide +kernel
theorem wsL_law_x1 : ∀ w ∈ (vx_atS RX4 77 "java/lang/IllegalStateException" ["java/lang/RuntimeException", "java/lang/Exception"]).filter goodWord, w ∈ lw_tbl := by decide +kernel
theorem wsL_law_x2 : ∀ w ∈ (vx_atS RX4 93 "java/lang/IndexOutOfBoundsException" ["java/lang/RuntimeException", "java/lang/Exception"]).filter goodWord, w ∈ lw_tbl := by decide +kernel
theorem wsL_law_x3 : ∀ w ∈ (vx_atS RX4 127 "java/lang/UnsupportedOperationException" ["java/lang/RuntimeException", "java/lang/Exception"]).filter goodWord, w ∈ lw_tbl := by decide +kernel
end
section
theorem wsL_law_x4 : ∀ w ∈ (nx_atS RX4 111 "java/util/NoSuchElementException" ["java/lang/RuntimeException", "java/lang/Exception"]).filter goodWord, w ∈ lw_tbl := by decide +kernel
theorem wsL_law_x5 : ∀ w ∈ (vx_atS RX4 236 "java/lang/ArithmeticException" ["java/lang/RuntimeException", "java/lang/Exception"]).filter goodWord, w ∈ lw_tbl := by decide +kernel
end
section
theorem wsL_law_in : ∀ w ∈ wsL_law, w ∈ lw_tbl := fun w h => (List.mem_append.mp h).elim (fun h => (List.mem_append.mp h).elim (fun h => (List.mem_append.mp h).elim (fun h => (List.mem_append.mp h).elim (fun h => (List.mem_append.mp h).elim (fun h => (List.mem_append.mp h).elim (fun h => wsL_law_in0 w h) (fun h => wsL_law_x0 w h)) (fun h => wsL_law_x1 w h)) (fun h => wsL_law_x2 w h)) (fun h => wsL_law_x3 w h)) (fun h => wsL_law_x4 w h)) (fun h => wsL_law_x5 w h)
theorem inlX0 : ∀ w ∈ wsX00, w ∈ wsL_law := fun _ h => List.mem_append_left _ (List.mem_append_left _ (List.mem_append_left _ (List.mem_append_left _ (List.mem_append_left _ (List.mem_append_left _ (List.mem_append_left _ (List.mem_append_left _ (List.mem_append_right _ h))))))))
theorem inX0 : ∀ w ∈ wsX00, w ∈ lw_tbl := fun w h => wsL_law_in w (inlX0 w h)
theorem inlX1 : ∀ w ∈ wsX10, w ∈ wsL_law := fun _ h => List.mem_append_left _ (List.mem_append_left _ (List.mem_append_left _ (List.mem_append_left _ (List.mem_append_left _ (List.mem_append_left _ (List.mem_append_left _ (List.mem_append_left _ (List.mem_append_left _ (List.mem_append_right _ h)))))))))
theorem inX1 : ∀ w ∈ wsX10, w ∈ lw_tbl := fun w h => wsL_law_in w (inlX1 w h)
theorem inlX2 : ∀ w ∈ wsX20, w ∈ wsL_law := fun _ h => List.mem_append_left _ (List.mem_append_left _ (List.mem_append_left _ (List.mem_append_left _ (List.mem_append_left _ (List.mem_append_left _ (List.mem_append_left _ (List.mem_append_right _ h)))))))
theorem inX2 : ∀ w ∈ wsX20, w ∈ lw_tbl := fun w h => wsL_law_in w (inlX2 w h)
theorem inlX3 : ∀ w ∈ wsX30, w ∈ wsL_law := fun _ h => List.mem_append_left _ (List.mem_append_left _ (List.mem_append_left _ (List.mem_append_left _ (List.mem_append_left _ (List.mem_append_left _ (List.mem_append_left _ (List.mem_append_left _ (List.mem_append_left _ (List.mem_append_left _ (List.mem_append_right _ h))))))))))
theorem inX3 : ∀ w ∈ wsX30, w ∈ lw_tbl := fun w h => wsL_law_in w (inlX3 w h)
theorem inlX4 : ∀ w ∈ wsX40, w ∈ wsL_law := fun _ h => List.mem_append_left _ (List.mem_append_left _ (List.mem_append_left _ (List.mem_append_left _ (List.mem_append_left _ (List.mem_append_left _ (List.mem_append_left _ (List.mem_append_left _ (List.mem_append_left _ (List.mem_append_left _ (List.mem_append_left _ (List.mem_append_left _ (List.mem_append_right _ h))))))))))))
theorem inX4 : ∀ w ∈ wsX40, w ∈ lw_tbl := fun w h => wsL_law_in w (inlX4 w h)
theorem inlX5 : ∀ w ∈ wsX50, w ∈ wsL_law := fun _ h => List.mem_append_left _ (List.mem_append_left _ (List.mem_append_left _ (List.mem_append_left _ (List.mem_append_left _ (List.mem_append_left _ (List.mem_append_left _ (List.mem_append_left _ (List.mem_append_left _ (List.mem_append_left _ (List.mem_append_left _ (List.mem_append_right _ h)))))))))))
theorem inX5 : ∀ w ∈ wsX50, w ∈ lw_tbl := fun w h => wsL_law_in w (inlX5 w h)
theorem inX6 : ∀ w ∈ wsX60, w ∈ lw_tbl := by decide +kernel
theorem inJx145de : ∀ w ∈ wsJx145de0, w ∈ lw_tbl := by decide +kernel
theorem inJ9 : ∀ w ∈ wsJ90, w ∈ lw_tbl := by decide +kernel
theorem inJ0 : ∀ w ∈ wsJ00, w ∈ lw_tbl := by decide +kernel
theorem inJ10 : ∀ w ∈ wsJ100, w ∈ lw_tbl := by decide +kernel
theorem inJ7 : ∀ w ∈ wsJ70, w ∈ lw_tbl := by decide +kernel
end
section
theorem dX0_init_0 : decode cX0_init 0 = .ok (.aload_n 0, 1) := by decide +kernel
theorem dX0_init_1 : decode cX0_init 1 = .ok (.invokespecial 1, 3) := by decide +kernel
theorem dX0_init_4 : decode cX0_init 4 = .ok (.aload_n 0, 1) := by decide +kernel
theorem dX0_init_5 : decode cX0_init 5 = .ok (.sipush 2000, 3) := by decide +kernel
theorem dX0_init_8 : decode cX0_init 8 = .ok (.putfield 7, 3) := by decide +kernel
theorem dX0_init_11 : decode cX0_init 11 = .ok (.aload_n 0, 1) := by decide +kernel
theorem dX0_init_12 : decode cX0_init 12 = .ok (.iconst 3, 1) := by decide +kernel
theorem dX0_init_13 : decode cX0_init 13 = .ok (.putfield 13, 3) := by decide +kernel
theorem dX0_init_16 : decode cX0_init 16 = .ok (.aload_n 0, 1) := by decide +kernel
theorem dX0_init_17 : decode cX0_init 17 = .ok (.iconst 5, 1) := by decide +kernel
theorem dX0_init_18 : decode cX0_init 18 = .ok (.putfield 16, 3) := by decide +kernel
theorem dX0_init_21 : decode cX0_init 21 = .ok (.return_, 1) := by decide +kernel
theorem dX0_cost_0 : decode cX0_cost 0 = .ok (.iload_n 1, 1) := by decide +kernel
theorem dX0_cost_1 : decode cX0_cost 1 = .ok (.aload_n 0, 1) := by decide +kernel
theorem dX0_cost_2 : decode cX0_cost 2 = .ok (.getfield 7, 3) := by decide +kernel
theorem dX0_cost_5 : decode cX0_cost 5 = .ok (.invokestatic 19, 3) := by decide +kernel
theorem dX0_cost_8 : decode cX0_cost 8 = .ok (.istore_n 2, 1) := by decide +kernel
theorem dX0_cost_9 : decode cX0_cost 9 = .ok (.iload_n 2, 1) := by decide +kernel
theorem dX0_cost_10 : decode cX0_cost 10 = .ok (.i2l, 1) := by decide +kernel
theorem dX0_cost_11 : decode cX0_cost 11 = .ok (.aload_n 0, 1) := by decide +kernel
theorem dX0_cost_12 : decode cX0_cost 12 = .ok (.getfield 13, 3) := by decide +kernel
theorem dX0_cost_15 : decode cX0_cost 15 = .ok (.i2l, 1) := by decide +kernel
theorem dX0_cost_16 : decode cX0_cost 16 = .ok (.lmul, 1) := by decide +kernel
theorem dX0_cost_17 : decode cX0_cost 17 = .ok (.iload_n 1, 1) := by decide +kernel
theorem dX0_cost_18 : decode cX0_cost 18 = .ok (.iload_n 2, 1) := by decide +kernel
theorem dX0_cost_19 : decode cX0_cost 19 = .ok (.isub, 1) := by decide +kernel
theorem dX0_cost_20 : decode cX0_cost 20 = .ok (.i2l, 1) := by decide +kernel
theorem dX0_cost_21 : decode cX0_cost 21 = .ok (.aload_n 0, 1) := by decide +kernel
theorem dX0_cost_22 : decode cX0_cost 22 = .ok (.getfield 16, 3) := by decide +kernel
theorem dX0_cost_25 : decode cX0_cost 25 = .ok (.i2l, 1) := by decide +kernel
theorem dX0_cost_26 : decode cX0_cost 26 = .ok (.lmul, 1) := by decide +kernel
theorem dX0_cost_27 : decode cX0_cost 27 = .ok (.ladd, 1) := by decide +kernel
theorem dX0_cost_28 : decode cX0_cost 28 = .ok (.lreturn, 1) := by decide +kernel
theorem dX1_init_0 : decode cX1_init 0 = .ok (.aload_n 0, 1) := by decide +kernel
theorem dX1_init_1 : decode cX1_init 1 = .ok (.invokespecial 3, 3) := by decide +kernel
theorem dX1_init_4 : decode cX1_init 4 = .ok (.aload_n 0, 1) := by decide +kernel
theorem dX1_init_5 : decode cX1_init 5 = .ok (.bipush 10, 2) := by decide +kernel
theorem dX1_init_7 : decode cX1_init 7 = .ok (.newarray .int, 2) := by decide +kernel
theorem dX1_init_9 : decode cX1_init 9 = .ok (.putfield 9, 3) := by decide +kernel
theorem dX1_init_12 : decode cX1_init 12 = .ok (.aload_n 0, 1) := by decide +kernel
theorem dX1_init_13 : decode cX1_init 13 = .ok (.bipush 10, 2) := by decide +kernel
theorem dX1_init_15 : decode cX1_init 15 = .ok (.newarray .int, 2) := by decide +kernel
theorem dX1_init_17 : decode cX1_init 17 = .ok (.putfield 15, 3) := by decide +kernel
theorem dX1_init_20 : decode cX1_init 20 = .ok (.aload_n 0, 1) := by decide +kernel
theorem dX1_init_21 : decode cX1_init 21 = .ok (.bipush 10, 2) := by decide +kernel
theorem dX1_init_23 : decode cX1_init 23 = .ok (.newarray .int, 2) := by decide +kernel
theorem dX1_init_25 : decode cX1_init 25 = .ok (.putfield 18, 3) := by decide +kernel
theorem dX1_init_28 : decode cX1_init 28 = .ok (.aload_n 0, 1) := by decide +kernel
theorem dX1_init_29 : decode cX1_init 29 = .ok (.bipush 10, 2) := by decide +kernel
theorem dX1_init_31 : decode cX1_init 31 = .ok (.newarray .int, 2) := by decide +kernel
theorem dX1_init_33 : decode cX1_init 33 = .ok (.putfield 21, 3) := by decide +kernel
theorem dX1_init_36 : decode cX1_init 36 = .ok (.aload_n 0, 1) := by decide +kernel
theorem dX1_init_37 : decode cX1_init 37 = .ok (.bipush 10, 2) := by decide +kernel
theorem dX1_init_39 : decode cX1_init 39 = .ok (.newarray .int, 2) := by decide +kernel
theorem dX1_init_41 : decode cX1_init 41 = .ok (.putfield 24, 3) := by decide +kernel
theorem dX1_init_44 : decode cX1_init 44 = .ok (.aload_n 0, 1) := by decide +kernel
theorem dX1_init_45 : decode cX1_init 45 = .ok (.sipush 801, 3) := by decide +kernel
theorem dX1_init_48 : decode cX1_init 48 = .ok (.newarray .int, 2) := by decide +kernel
theorem dX1_init_50 : decode cX1_init 50 = .ok (.putfield 27, 3) := by decide +kernel
theorem dX1_init_53 : decode cX1_init 53 = .ok (.return_, 1) := by decide +kernel
set_option maxRecDepth 20000 in
theorem ggX1_load_X3_has : GoodIn wsX1_load wsX3_has := goodIn_r _ [19, 20, 29, 30, 31, 32, 33] (by decide +kernel) (by decide +kernel)
set_option maxRecDepth 20000 in
theorem gX1_load_X3_has : GoodIn wsX1_load (wsV RX1 43 RX3 yX3_has wsX3_has) := goodIn_app (goodIn_of _ (by decide +kernel)) ggX1_load_X3_has
theorem dX1_load_0 : decode cX1_load 0 = .ok (.aload_n 0, 1) := by decide +kernel
theorem dX1_load_1 : decode cX1_load 1 = .ok (.iconst 0, 1) := by decide +kernel
theorem dX1_load_2 : decode cX1_load 2 = .ok (.iload_n 3, 1) := by decide +kernel
theorem dX1_load_3 : decode cX1_load 3 = .ok (.sipush 800, 3) := by decide +kernel
theorem dX1_load_6 : decode cX1_load 6 = .ok (.invokestatic 30, 3) := by decide +kernel
theorem dX1_load_9 : decode cX1_load 9 = .ok (.invokestatic 36, 3) := by decide +kernel
theorem dX1_load_12 : decode cX1_load 12 = .ok (.putfield 39, 3) := by decide +kernel
theorem dX1_load_15 : decode cX1_load 15 = .ok (.iconst 0, 1) := by decide +kernel
theorem dX1_load_16 : decode cX1_load 16 = .ok (.istore 4, 2) := by decide +kernel
theorem dX1_load_18 : decode cX1_load 18 = .ok (.bipush 9, 2) := by decide +kernel
theorem dX1_load_20 : decode cX1_load 20 = .ok (.istore 5, 2) := by decide +kernel
theorem dX1_load_22 : decode cX1_load 22 = .ok (.iload 5, 2) := by decide +kernel
theorem dX1_load_24 : decode cX1_load 24 = .ok (.ifCond .lt 116, 3) := by decide +kernel
theorem dX1_load_27 : decode cX1_load 27 = .ok (.aload_n 1, 1) := by decide +kernel
theorem dX1_load_28 : decode cX1_load 28 = .ok (.iload 5, 2) := by decide +kernel
theorem dX1_load_30 : decode cX1_load 30 = .ok (.invokevirtual 43, 3) := by decide +kernel
theorem dX1_load_33 : decode cX1_load 33 = .ok (.ifCond .eq 18, 3) := by decide +kernel
theorem dX1_load_36 : decode cX1_load 36 = .ok (.aload_n 1, 1) := by decide +kernel
theorem dX1_load_37 : decode cX1_load 37 = .ok (.getfield 49, 3) := by decide +kernel
theorem dX1_load_40 : decode cX1_load 40 = .ok (.iload 5, 2) := by decide +kernel
theorem dX1_load_42 : decode cX1_load 42 = .ok (.iaload, 1) := by decide +kernel
theorem dX1_load_43 : decode cX1_load 43 = .ok (.iload_n 2, 1) := by decide +kernel
theorem dX1_load_44 : decode cX1_load 44 = .ok (.if_icmp .ne 7, 3) := by decide +kernel
theorem dX1_load_47 : decode cX1_load 47 = .ok (.iconst 1, 1) := by decide +kernel
theorem dX1_load_48 : decode cX1_load 48 = .ok (.goto 4, 3) := by decide +kernel
theorem dX1_load_51 : decode cX1_load 51 = .ok (.iconst 0, 1) := by decide +kernel
theorem dX1_load_52 : decode cX1_load 52 = .ok (.istore 6, 2) := by decide +kernel
theorem dX1_load_54 : decode cX1_load 54 = .ok (.aload_n 0, 1) := by decide +kernel
theorem dX1_load_55 : decode cX1_load 55 = .ok (.getfield 18, 3) := by decide +kernel
theorem dX1_load_58 : decode cX1_load 58 = .ok (.iload 5, 2) := by decide +kernel
theorem dX1_load_60 : decode cX1_load 60 = .ok (.aload_n 1, 1) := by decide +kernel
theorem dX1_load_61 : decode cX1_load 61 = .ok (.getfield 52, 3) := by decide +kernel
theorem dX1_load_64 : decode cX1_load 64 = .ok (.iload 5, 2) := by decide +kernel
theorem dX1_load_66 : decode cX1_load 66 = .ok (.iaload, 1) := by decide +kernel
theorem dX1_load_67 : decode cX1_load 67 = .ok (.iastore, 1) := by decide +kernel
theorem dX1_load_68 : decode cX1_load 68 = .ok (.aload_n 0, 1) := by decide +kernel
theorem dX1_load_69 : decode cX1_load 69 = .ok (.getfield 21, 3) := by decide +kernel
theorem dX1_load_72 : decode cX1_load 72 = .ok (.iload 5, 2) := by decide +kernel
theorem dX1_load_74 : decode cX1_load 74 = .ok (.iload 6, 2) := by decide +kernel
theorem dX1_load_76 : decode cX1_load 76 = .ok (.ifCond .eq 18, 3) := by decide +kernel
theorem dX1_load_79 : decode cX1_load 79 = .ok (.aload_n 1, 1) := by decide +kernel
theorem dX1_load_80 : decode cX1_load 80 = .ok (.getfield 53, 3) := by decide +kernel
theorem dX1_load_83 : decode cX1_load 83 = .ok (.iload 5, 2) := by decide +kernel
theorem dX1_load_85 : decode cX1_load 85 = .ok (.iaload, 1) := by decide +kernel
theorem dX1_load_86 : decode cX1_load 86 = .ok (.bipush 6, 2) := by decide +kernel
theorem dX1_load_88 : decode cX1_load 88 = .ok (.invokestatic 30, 3) := by decide +kernel
theorem dX1_load_91 : decode cX1_load 91 = .ok (.goto 4, 3) := by decide +kernel
theorem dX1_load_94 : decode cX1_load 94 = .ok (.iconst 0, 1) := by decide +kernel
theorem dX1_load_95 : decode cX1_load 95 = .ok (.iastore, 1) := by decide +kernel
theorem dX1_load_96 : decode cX1_load 96 = .ok (.aload_n 0, 1) := by decide +kernel
theorem dX1_load_97 : decode cX1_load 97 = .ok (.getfield 21, 3) := by decide +kernel
theorem dX1_load_100 : decode cX1_load 100 = .ok (.iload 5, 2) := by decide +kernel
theorem dX1_load_102 : decode cX1_load 102 = .ok (.iaload, 1) := by decide +kernel
theorem dX1_load_103 : decode cX1_load 103 = .ok (.ifCond .le 18, 3) := by decide +kernel
theorem dX1_load_106 : decode cX1_load 106 = .ok (.iload 4, 2) := by decide +kernel
theorem dX1_load_108 : decode cX1_load 108 = .ok (.aload_n 0, 1) := by decide +kernel
theorem dX1_load_109 : decode cX1_load 109 = .ok (.getfield 18, 3) := by decide +kernel
theorem dX1_load_112 : decode cX1_load 112 = .ok (.iload 5, 2) := by decide +kernel
theorem dX1_load_114 : decode cX1_load 114 = .ok (.iaload, 1) := by decide +kernel
theorem dX1_load_115 : decode cX1_load 115 = .ok (.invokestatic 36, 3) := by decide +kernel
theorem dX1_load_118 : decode cX1_load 118 = .ok (.goto 5, 3) := by decide +kernel
theorem dX1_load_121 : decode cX1_load 121 = .ok (.iload 4, 2) := by decide +kernel
theorem dX1_load_123 : decode cX1_load 123 = .ok (.istore 4, 2) := by decide +kernel
theorem dX1_load_125 : decode cX1_load 125 = .ok (.aload_n 0, 1) := by decide +kernel
theorem dX1_load_126 : decode cX1_load 126 = .ok (.getfield 24, 3) := by decide +kernel
theorem dX1_load_129 : decode cX1_load 129 = .ok (.iload 5, 2) := by decide +kernel
theorem dX1_load_131 : decode cX1_load 131 = .ok (.iload 4, 2) := by decide +kernel
theorem dX1_load_133 : decode cX1_load 133 = .ok (.iastore, 1) := by decide +kernel
theorem dX1_load_134 : decode cX1_load 134 = .ok (.iinc 5 (-1), 3) := by decide +kernel
theorem dX1_load_137 : decode cX1_load 137 = .ok (.goto (-115), 3) := by decide +kernel
theorem dX1_load_140 : decode cX1_load 140 = .ok (.return_, 1) := by decide +kernel
set_option maxRecDepth 20000 in
theorem ggX1_sumBySearch_J7_fill_53178 : GoodIn wsX1_sumBySearch wsJ7_fill_53178 := goodIn_r _ [6] (by decide +kernel) (by decide +kernel)
set_option maxRecDepth 20000 in
theorem gX1_sumBySearch_J7_fill_53178 : GoodIn wsX1_sumBySearch (va_wsS RX1 59 yJ7_fill_53178 wsJ7_fill_53178) := goodIn_app (goodIn_of _ (by decide +kernel)) ggX1_sumBySearch_J7_fill_53178
set_option maxRecDepth 20000 in
theorem ggX1_sumBySearch_X1_search : GoodIn wsX1_sumBySearch wsX1_search := goodIn_r _ [10, 11, 12, 13, 14, 15, 16, 1, 17, 18, 19, 20, 21, 22, 9, 23, 2, 24, 25, 26, 27, 7, 8, 28, 29, 30, 31, 32, 33, 34, 35] (by decide +kernel) (by decide +kernel)
set_option maxRecDepth 20000 in
theorem gX1_sumBySearch_X1_search : GoodIn wsX1_sumBySearch (va_wsS RX1 65 yX1_search wsX1_search) := goodIn_app (goodIn_of _ (by decide +kernel)) ggX1_sumBySearch_X1_search
theorem dX1_sumBySearch_0 : decode cX1_sumBySearch 0 = .ok (.aload_n 0, 1) := by decide +kernel
theorem dX1_sumBySearch_1 : decode cX1_sumBySearch 1 = .ok (.iconst 0, 1) := by decide +kernel
theorem dX1_sumBySearch_2 : decode cX1_sumBySearch 2 = .ok (.putfield 56, 3) := by decide +kernel
theorem dX1_sumBySearch_5 : decode cX1_sumBySearch 5 = .ok (.aload_n 0, 1) := by decide +kernel
theorem dX1_sumBySearch_6 : decode cX1_sumBySearch 6 = .ok (.getfield 9, 3) := by decide +kernel
theorem dX1_sumBySearch_9 : decode cX1_sumBySearch 9 = .ok (.iconst 0, 1) := by decide +kernel
theorem dX1_sumBySearch_10 : decode cX1_sumBySearch 10 = .ok (.invokestatic 59, 3) := by decide +kernel
theorem dX1_sumBySearch_13 : decode cX1_sumBySearch 13 = .ok (.aload_n 0, 1) := by decide +kernel
theorem dX1_sumBySearch_14 : decode cX1_sumBySearch 14 = .ok (.iconst 0, 1) := by decide +kernel
theorem dX1_sumBySearch_15 : decode cX1_sumBySearch 15 = .ok (.bipush 6, 2) := by decide +kernel
theorem dX1_sumBySearch_17 : decode cX1_sumBySearch 17 = .ok (.iconst 0, 1) := by decide +kernel
theorem dX1_sumBySearch_18 : decode cX1_sumBySearch 18 = .ok (.invokestatic 65, 3) := by decide +kernel
theorem dX1_sumBySearch_21 : decode cX1_sumBySearch 21 = .ok (.aload_n 0, 1) := by decide +kernel
theorem dX1_sumBySearch_22 : decode cX1_sumBySearch 22 = .ok (.getfield 56, 3) := by decide +kernel
theorem dX1_sumBySearch_25 : decode cX1_sumBySearch 25 = .ok (.ireturn, 1) := by decide +kernel
set_option maxRecDepth 20000 in
theorem ggX1_search_X1_keepIfGreater : GoodIn wsX1_search wsX1_keepIfGreater := goodIn_r _ [15, 7, 10, 16, 17, 18, 19, 20, 23, 24, 25, 26, 27, 28, 29, 30] (by decide +kernel) (by decide +kernel)
set_option maxRecDepth 20000 in
theorem gX1_search_X1_keepIfGreater : GoodIn wsX1_search (wsV RX1 69 RX1 yX1_keepIfGreater wsX1_keepIfGreater) := goodIn_app (goodIn_of _ (by decide +kernel)) ggX1_search_X1_keepIfGreater
set_option maxRecDepth 20000 in
theorem ggX1_search_X1_search : GoodIn wsX1_search wsX1_search := goodIn_r _ [0, 1, 2, 3, 4, 5, 6, 7, 8, 9, 10, 11, 12, 13, 14, 15, 16, 17, 18, 19, 20, 21, 22, 23, 24, 25, 26, 27, 28, 29, 30] (by decide +kernel) (by decide +kernel)
set_option maxRecDepth 20000 in
theorem gX1_search_X1_search : GoodIn wsX1_search (va_wsS RX1 65 yX1_search wsX1_search) := goodIn_app (goodIn_of _ (by decide +kernel)) ggX1_search_X1_search
theorem dX1_search_0 : decode cX1_search 0 = .ok (.iload_n 1, 1) := by decide +kernel
theorem dX1_search_1 : decode cX1_search 1 = .ok (.ifCond .lt 9, 3) := by decide +kernel
theorem dX1_search_4 : decode cX1_search 4 = .ok (.iload_n 1, 1) := by decide +kernel
theorem dX1_search_5 : decode cX1_search 5 = .ok (.bipush 10, 2) := by decide +kernel
theorem dX1_search_7 : decode cX1_search 7 = .ok (.if_icmp .lt 9, 3) := by decide +kernel
theorem dX1_search_10 : decode cX1_search 10 = .ok (.aload_n 0, 1) := by decide +kernel
theorem dX1_search_11 : decode cX1_search 11 = .ok (.iload_n 3, 1) := by decide +kernel
theorem dX1_search_12 : decode cX1_search 12 = .ok (.invokevirtual 69, 3) := by decide +kernel
theorem dX1_search_15 : decode cX1_search 15 = .ok (.return_, 1) := by decide +kernel
theorem dX1_search_16 : decode cX1_search 16 = .ok (.iload_n 2, 1) := by decide +kernel
theorem dX1_search_17 : decode cX1_search 17 = .ok (.aload_n 0, 1) := by decide +kernel
theorem dX1_search_18 : decode cX1_search 18 = .ok (.getfield 24, 3) := by decide +kernel
theorem dX1_search_21 : decode cX1_search 21 = .ok (.iload_n 1, 1) := by decide +kernel
theorem dX1_search_22 : decode cX1_search 22 = .ok (.iaload, 1) := by decide +kernel
theorem dX1_search_23 : decode cX1_search 23 = .ok (.imul, 1) := by decide +kernel
theorem dX1_search_24 : decode cX1_search 24 = .ok (.aload_n 0, 1) := by decide +kernel
theorem dX1_search_25 : decode cX1_search 25 = .ok (.getfield 39, 3) := by decide +kernel
theorem dX1_search_28 : decode cX1_search 28 = .ok (.iload_n 3, 1) := by decide +kernel
theorem dX1_search_29 : decode cX1_search 29 = .ok (.isub, 1) := by decide +kernel
theorem dX1_search_30 : decode cX1_search 30 = .ok (.invokestatic 30, 3) := by decide +kernel
theorem dX1_search_33 : decode cX1_search 33 = .ok (.istore 4, 2) := by decide +kernel
theorem dX1_search_35 : decode cX1_search 35 = .ok (.iload_n 3, 1) := by decide +kernel
theorem dX1_search_36 : decode cX1_search 36 = .ok (.iload 4, 2) := by decide +kernel
theorem dX1_search_38 : decode cX1_search 38 = .ok (.iadd, 1) := by decide +kernel
theorem dX1_search_39 : decode cX1_search 39 = .ok (.aload_n 0, 1) := by decide +kernel
theorem dX1_search_40 : decode cX1_search 40 = .ok (.getfield 56, 3) := by decide +kernel
theorem dX1_search_43 : decode cX1_search 43 = .ok (.if_icmp .gt 4, 3) := by decide +kernel
theorem dX1_search_46 : decode cX1_search 46 = .ok (.return_, 1) := by decide +kernel
theorem dX1_search_47 : decode cX1_search 47 = .ok (.aload_n 0, 1) := by decide +kernel
theorem dX1_search_48 : decode cX1_search 48 = .ok (.getfield 21, 3) := by decide +kernel
theorem dX1_search_51 : decode cX1_search 51 = .ok (.iload_n 1, 1) := by decide +kernel
theorem dX1_search_52 : decode cX1_search 52 = .ok (.iaload, 1) := by decide +kernel
theorem dX1_search_53 : decode cX1_search 53 = .ok (.iload_n 2, 1) := by decide +kernel
theorem dX1_search_54 : decode cX1_search 54 = .ok (.invokestatic 30, 3) := by decide +kernel
theorem dX1_search_57 : decode cX1_search 57 = .ok (.istore 5, 2) := by decide +kernel
theorem dX1_search_59 : decode cX1_search 59 = .ok (.iload 5, 2) := by decide +kernel
theorem dX1_search_61 : decode cX1_search 61 = .ok (.ifCond .lt 52, 3) := by decide +kernel
theorem dX1_search_64 : decode cX1_search 64 = .ok (.iload_n 3, 1) := by decide +kernel
theorem dX1_search_65 : decode cX1_search 65 = .ok (.iload 5, 2) := by decide +kernel
theorem dX1_search_67 : decode cX1_search 67 = .ok (.aload_n 0, 1) := by decide +kernel
theorem dX1_search_68 : decode cX1_search 68 = .ok (.getfield 18, 3) := by decide +kernel
theorem dX1_search_71 : decode cX1_search 71 = .ok (.iload_n 1, 1) := by decide +kernel
theorem dX1_search_72 : decode cX1_search 72 = .ok (.iaload, 1) := by decide +kernel
theorem dX1_search_73 : decode cX1_search 73 = .ok (.imul, 1) := by decide +kernel
theorem dX1_search_74 : decode cX1_search 74 = .ok (.iadd, 1) := by decide +kernel
theorem dX1_search_75 : decode cX1_search 75 = .ok (.istore 6, 2) := by decide +kernel
theorem dX1_search_77 : decode cX1_search 77 = .ok (.iload 6, 2) := by decide +kernel
theorem dX1_search_79 : decode cX1_search 79 = .ok (.aload_n 0, 1) := by decide +kernel
theorem dX1_search_80 : decode cX1_search 80 = .ok (.getfield 39, 3) := by decide +kernel
theorem dX1_search_83 : decode cX1_search 83 = .ok (.if_icmp .gt 24, 3) := by decide +kernel
theorem dX1_search_86 : decode cX1_search 86 = .ok (.aload_n 0, 1) := by decide +kernel
theorem dX1_search_87 : decode cX1_search 87 = .ok (.getfield 15, 3) := by decide +kernel
theorem dX1_search_90 : decode cX1_search 90 = .ok (.iload_n 1, 1) := by decide +kernel
theorem dX1_search_91 : decode cX1_search 91 = .ok (.iload 5, 2) := by decide +kernel
theorem dX1_search_93 : decode cX1_search 93 = .ok (.iastore, 1) := by decide +kernel
theorem dX1_search_94 : decode cX1_search 94 = .ok (.aload_n 0, 1) := by decide +kernel
theorem dX1_search_95 : decode cX1_search 95 = .ok (.iload_n 1, 1) := by decide +kernel
theorem dX1_search_96 : decode cX1_search 96 = .ok (.iconst 1, 1) := by decide +kernel
theorem dX1_search_97 : decode cX1_search 97 = .ok (.iadd, 1) := by decide +kernel
theorem dX1_search_98 : decode cX1_search 98 = .ok (.iload_n 2, 1) := by decide +kernel
theorem dX1_search_99 : decode cX1_search 99 = .ok (.iload 5, 2) := by decide +kernel
theorem dX1_search_101 : decode cX1_search 101 = .ok (.isub, 1) := by decide +kernel
theorem dX1_search_102 : decode cX1_search 102 = .ok (.iload 6, 2) := by decide +kernel
theorem dX1_search_104 : decode cX1_search 104 = .ok (.invokestatic 65, 3) := by decide +kernel
theorem dX1_search_107 : decode cX1_search 107 = .ok (.iinc 5 (-1), 3) := by decide +kernel
theorem dX1_search_110 : decode cX1_search 110 = .ok (.goto (-51), 3) := by decide +kernel
theorem dX1_search_113 : decode cX1_search 113 = .ok (.return_, 1) := by decide +kernel
theorem dX1_keepIfGreater_0 : decode cX1_keepIfGreater 0 = .ok (.iload_n 1, 1) := by decide +kernel
theorem dX1_keepIfGreater_1 : decode cX1_keepIfGreater 1 = .ok (.aload_n 0, 1) := by decide +kernel
theorem dX1_keepIfGreater_2 : decode cX1_keepIfGreater 2 = .ok (.getfield 56, 3) := by decide +kernel
theorem dX1_keepIfGreater_5 : decode cX1_keepIfGreater 5 = .ok (.if_icmp .le 23, 3) := by decide +kernel
theorem dX1_keepIfGreater_8 : decode cX1_keepIfGreater 8 = .ok (.aload_n 0, 1) := by decide +kernel
theorem dX1_keepIfGreater_9 : decode cX1_keepIfGreater 9 = .ok (.iload_n 1, 1) := by decide +kernel
theorem dX1_keepIfGreater_10 : decode cX1_keepIfGreater 10 = .ok (.putfield 56, 3) := by decide +kernel
theorem dX1_keepIfGreater_13 : decode cX1_keepIfGreater 13 = .ok (.aload_n 0, 1) := by decide +kernel
theorem dX1_keepIfGreater_14 : decode cX1_keepIfGreater 14 = .ok (.getfield 15, 3) := by decide +kernel
theorem dX1_keepIfGreater_17 : decode cX1_keepIfGreater 17 = .ok (.iconst 0, 1) := by decide +kernel
theorem dX1_keepIfGreater_18 : decode cX1_keepIfGreater 18 = .ok (.aload_n 0, 1) := by decide +kernel
theorem dX1_keepIfGreater_19 : decode cX1_keepIfGreater 19 = .ok (.getfield 9, 3) := by decide +kernel
theorem dX1_keepIfGreater_22 : decode cX1_keepIfGreater 22 = .ok (.iconst 0, 1) := by decide +kernel
theorem dX1_keepIfGreater_23 : decode cX1_keepIfGreater 23 = .ok (.bipush 10, 2) := by decide +kernel
theorem dX1_keepIfGreater_25 : decode cX1_keepIfGreater 25 = .ok (.invokestatic 73, 3) := by decide +kernel
theorem dX1_keepIfGreater_28 : decode cX1_keepIfGreater 28 = .ok (.return_, 1) := by decide +kernel
theorem dX2_init_0 : decode cX2_init 0 = .ok (.aload_n 0, 1) := by decide +kernel
theorem dX2_init_1 : decode cX2_init 1 = .ok (.invokespecial 3, 3) := by decide +kernel
theorem dX2_init_4 : decode cX2_init 4 = .ok (.aload_n 0, 1) := by decide +kernel
theorem dX2_init_5 : decode cX2_init 5 = .ok (.sipush 400, 3) := by decide +kernel
theorem dX2_init_8 : decode cX2_init 8 = .ok (.newarray .char, 2) := by decide +kernel
theorem dX2_init_10 : decode cX2_init 10 = .ok (.putfield 9, 3) := by decide +kernel
theorem dX2_init_13 : decode cX2_init 13 = .ok (.aload_n 0, 1) := by decide +kernel
theorem dX2_init_14 : decode cX2_init 14 = .ok (.sipush 400, 3) := by decide +kernel
theorem dX2_init_17 : decode cX2_init 17 = .ok (.newarray .int, 2) := by decide +kernel
theorem dX2_init_19 : decode cX2_init 19 = .ok (.putfield 15, 3) := by decide +kernel
theorem dX2_init_22 : decode cX2_init 22 = .ok (.aload_n 0, 1) := by decide +kernel
theorem dX2_init_23 : decode cX2_init 23 = .ok (.sipush 400, 3) := by decide +kernel
theorem dX2_init_26 : decode cX2_init 26 = .ok (.newarray .int, 2) := by decide +kernel
theorem dX2_init_28 : decode cX2_init 28 = .ok (.putfield 19, 3) := by decide +kernel
theorem dX2_init_31 : decode cX2_init 31 = .ok (.aload_n 0, 1) := by decide +kernel
theorem dX2_init_32 : decode cX2_init 32 = .ok (.sipush 400, 3) := by decide +kernel
theorem dX2_init_35 : decode cX2_init 35 = .ok (.newarray .int, 2) := by decide +kernel
theorem dX2_init_37 : decode cX2_init 37 = .ok (.putfield 22, 3) := by decide +kernel
theorem dX2_init_40 : decode cX2_init 40 = .ok (.return_, 1) := by decide +kernel
theorem dX2_has_0 : decode cX2_has 0 = .ok (.iload_n 1, 1) := by decide +kernel
theorem dX2_has_1 : decode cX2_has 1 = .ok (.ifCond .lt 15, 3) := by decide +kernel
theorem dX2_has_4 : decode cX2_has 4 = .ok (.iload_n 1, 1) := by decide +kernel
theorem dX2_has_5 : decode cX2_has 5 = .ok (.aload_n 0, 1) := by decide +kernel
theorem dX2_has_6 : decode cX2_has 6 = .ok (.getfield 25, 3) := by decide +kernel
theorem dX2_has_9 : decode cX2_has 9 = .ok (.if_icmp .ge 7, 3) := by decide +kernel
theorem dX2_has_12 : decode cX2_has 12 = .ok (.iconst 1, 1) := by decide +kernel
theorem dX2_has_13 : decode cX2_has 13 = .ok (.goto 4, 3) := by decide +kernel
theorem dX2_has_16 : decode cX2_has 16 = .ok (.iconst 0, 1) := by decide +kernel
theorem dX2_has_17 : decode cX2_has 17 = .ok (.ireturn, 1) := by decide +kernel
set_option maxRecDepth 20000 in
theorem ggX2_writeNothing_X2_writeMade : GoodIn wsX2_writeNothing wsX2_writeMade := goodIn_r _ [5, 6, 7, 8, 9, 10, 11, 12, 13, 14, 15, 16, 17, 18, 19, 20, 21, 22, 23, 24] (by decide +kernel) (by decide +kernel)
set_option maxRecDepth 20000 in
theorem gX2_writeNothing_X2_writeMade : GoodIn wsX2_writeNothing (wsV RX2 29 RX2 yX2_writeMade wsX2_writeMade) := goodIn_app (goodIn_of _ (by decide +kernel)) ggX2_writeNothing_X2_writeMade
theorem dX2_writeNothing_0 : decode cX2_writeNothing 0 = .ok (.aload_n 0, 1) := by decide +kernel
theorem dX2_writeNothing_1 : decode cX2_writeNothing 1 = .ok (.bipush 110, 2) := by decide +kernel
theorem dX2_writeNothing_3 : decode cX2_writeNothing 3 = .ok (.iconst 0, 1) := by decide +kernel
theorem dX2_writeNothing_4 : decode cX2_writeNothing 4 = .ok (.iconst 0, 1) := by decide +kernel
theorem dX2_writeNothing_5 : decode cX2_writeNothing 5 = .ok (.iconst 0, 1) := by decide +kernel
theorem dX2_writeNothing_6 : decode cX2_writeNothing 6 = .ok (.invokevirtual 29, 3) := by decide +kernel
theorem dX2_writeNothing_9 : decode cX2_writeNothing 9 = .ok (.return_, 1) := by decide +kernel
theorem dX2_writeMade_0 : decode cX2_writeMade 0 = .ok (.aload_n 0, 1) := by decide +kernel
theorem dX2_writeMade_1 : decode cX2_writeMade 1 = .ok (.getfield 25, 3) := by decide +kernel
theorem dX2_writeMade_4 : decode cX2_writeMade 4 = .ok (.ifCond .lt 13, 3) := by decide +kernel
theorem dX2_writeMade_7 : decode cX2_writeMade 7 = .ok (.aload_n 0, 1) := by decide +kernel
theorem dX2_writeMade_8 : decode cX2_writeMade 8 = .ok (.getfield 25, 3) := by decide +kernel
theorem dX2_writeMade_11 : decode cX2_writeMade 11 = .ok (.sipush 400, 3) := by decide +kernel
theorem dX2_writeMade_14 : decode cX2_writeMade 14 = .ok (.if_icmp .lt 4, 3) := by decide +kernel
theorem dX2_writeMade_17 : decode cX2_writeMade 17 = .ok (.return_, 1) := by decide +kernel
theorem dX2_writeMade_18 : decode cX2_writeMade 18 = .ok (.aload_n 0, 1) := by decide +kernel
theorem dX2_writeMade_19 : decode cX2_writeMade 19 = .ok (.getfield 9, 3) := by decide +kernel
theorem dX2_writeMade_22 : decode cX2_writeMade 22 = .ok (.aload_n 0, 1) := by decide +kernel
theorem dX2_writeMade_23 : decode cX2_writeMade 23 = .ok (.getfield 25, 3) := by decide +kernel
theorem dX2_writeMade_26 : decode cX2_writeMade 26 = .ok (.iload_n 1, 1) := by decide +kernel
theorem dX2_writeMade_27 : decode cX2_writeMade 27 = .ok (.castore, 1) := by decide +kernel
theorem dX2_writeMade_28 : decode cX2_writeMade 28 = .ok (.aload_n 0, 1) := by decide +kernel
theorem dX2_writeMade_29 : decode cX2_writeMade 29 = .ok (.getfield 15, 3) := by decide +kernel
theorem dX2_writeMade_32 : decode cX2_writeMade 32 = .ok (.aload_n 0, 1) := by decide +kernel
theorem dX2_writeMade_33 : decode cX2_writeMade 33 = .ok (.getfield 25, 3) := by decide +kernel
theorem dX2_writeMade_36 : decode cX2_writeMade 36 = .ok (.iload_n 2, 1) := by decide +kernel
theorem dX2_writeMade_37 : decode cX2_writeMade 37 = .ok (.iastore, 1) := by decide +kernel
theorem dX2_writeMade_38 : decode cX2_writeMade 38 = .ok (.aload_n 0, 1) := by decide +kernel
theorem dX2_writeMade_39 : decode cX2_writeMade 39 = .ok (.getfield 19, 3) := by decide +kernel
theorem dX2_writeMade_42 : decode cX2_writeMade 42 = .ok (.aload_n 0, 1) := by decide +kernel
theorem dX2_writeMade_43 : decode cX2_writeMade 43 = .ok (.getfield 25, 3) := by decide +kernel
theorem dX2_writeMade_46 : decode cX2_writeMade 46 = .ok (.iload_n 3, 1) := by decide +kernel
theorem dX2_writeMade_47 : decode cX2_writeMade 47 = .ok (.iastore, 1) := by decide +kernel
theorem dX2_writeMade_48 : decode cX2_writeMade 48 = .ok (.aload_n 0, 1) := by decide +kernel
theorem dX2_writeMade_49 : decode cX2_writeMade 49 = .ok (.getfield 22, 3) := by decide +kernel
theorem dX2_writeMade_52 : decode cX2_writeMade 52 = .ok (.aload_n 0, 1) := by decide +kernel
theorem dX2_writeMade_53 : decode cX2_writeMade 53 = .ok (.getfield 25, 3) := by decide +kernel
theorem dX2_writeMade_56 : decode cX2_writeMade 56 = .ok (.iload 4, 2) := by decide +kernel
theorem dX2_writeMade_58 : decode cX2_writeMade 58 = .ok (.iastore, 1) := by decide +kernel
theorem dX2_writeMade_59 : decode cX2_writeMade 59 = .ok (.aload_n 0, 1) := by decide +kernel
theorem dX2_writeMade_60 : decode cX2_writeMade 60 = .ok (.dup, 1) := by decide +kernel
theorem dX2_writeMade_61 : decode cX2_writeMade 61 = .ok (.getfield 25, 3) := by decide +kernel
theorem dX2_writeMade_64 : decode cX2_writeMade 64 = .ok (.iconst 1, 1) := by decide +kernel
theorem dX2_writeMade_65 : decode cX2_writeMade 65 = .ok (.iadd, 1) := by decide +kernel
theorem dX2_writeMade_66 : decode cX2_writeMade 66 = .ok (.putfield 25, 3) := by decide +kernel
theorem dX2_writeMade_69 : decode cX2_writeMade 69 = .ok (.aload_n 0, 1) := by decide +kernel
theorem dX2_writeMade_70 : decode cX2_writeMade 70 = .ok (.dup, 1) := by decide +kernel
theorem dX2_writeMade_71 : decode cX2_writeMade 71 = .ok (.getfield 33, 3) := by decide +kernel
theorem dX2_writeMade_74 : decode cX2_writeMade 74 = .ok (.iload_n 2, 1) := by decide +kernel
theorem dX2_writeMade_75 : decode cX2_writeMade 75 = .ok (.i2l, 1) := by decide +kernel
theorem dX2_writeMade_76 : decode cX2_writeMade 76 = .ok (.ladd, 1) := by decide +kernel
theorem dX2_writeMade_77 : decode cX2_writeMade 77 = .ok (.putfield 33, 3) := by decide +kernel
theorem dX2_writeMade_80 : decode cX2_writeMade 80 = .ok (.aload_n 0, 1) := by decide +kernel
theorem dX2_writeMade_81 : decode cX2_writeMade 81 = .ok (.dup, 1) := by decide +kernel
theorem dX2_writeMade_82 : decode cX2_writeMade 82 = .ok (.getfield 37, 3) := by decide +kernel
theorem dX2_writeMade_85 : decode cX2_writeMade 85 = .ok (.iload_n 3, 1) := by decide +kernel
theorem dX2_writeMade_86 : decode cX2_writeMade 86 = .ok (.i2l, 1) := by decide +kernel
theorem dX2_writeMade_87 : decode cX2_writeMade 87 = .ok (.ladd, 1) := by decide +kernel
theorem dX2_writeMade_88 : decode cX2_writeMade 88 = .ok (.putfield 37, 3) := by decide +kernel
theorem dX2_writeMade_91 : decode cX2_writeMade 91 = .ok (.aload_n 0, 1) := by decide +kernel
theorem dX2_writeMade_92 : decode cX2_writeMade 92 = .ok (.dup, 1) := by decide +kernel
theorem dX2_writeMade_93 : decode cX2_writeMade 93 = .ok (.getfield 40, 3) := by decide +kernel
theorem dX2_writeMade_96 : decode cX2_writeMade 96 = .ok (.iload 4, 2) := by decide +kernel
theorem dX2_writeMade_98 : decode cX2_writeMade 98 = .ok (.i2l, 1) := by decide +kernel
theorem dX2_writeMade_99 : decode cX2_writeMade 99 = .ok (.ladd, 1) := by decide +kernel
theorem dX2_writeMade_100 : decode cX2_writeMade 100 = .ok (.putfield 40, 3) := by decide +kernel
theorem dX2_writeMade_103 : decode cX2_writeMade 103 = .ok (.return_, 1) := by decide +kernel
theorem dX2_writeTrim_0 : decode cX2_writeTrim 0 = .ok (.aload_n 0, 1) := by decide +kernel
theorem dX2_writeTrim_1 : decode cX2_writeTrim 1 = .ok (.dup, 1) := by decide +kernel
theorem dX2_writeTrim_2 : decode cX2_writeTrim 2 = .ok (.getfield 43, 3) := by decide +kernel
theorem dX2_writeTrim_5 : decode cX2_writeTrim 5 = .ok (.iload_n 1, 1) := by decide +kernel
theorem dX2_writeTrim_6 : decode cX2_writeTrim 6 = .ok (.i2l, 1) := by decide +kernel
theorem dX2_writeTrim_7 : decode cX2_writeTrim 7 = .ok (.ladd, 1) := by decide +kernel
theorem dX2_writeTrim_8 : decode cX2_writeTrim 8 = .ok (.putfield 43, 3) := by decide +kernel
theorem dX2_writeTrim_11 : decode cX2_writeTrim 11 = .ok (.aload_n 0, 1) := by decide +kernel
theorem dX2_writeTrim_12 : decode cX2_writeTrim 12 = .ok (.dup, 1) := by decide +kernel
theorem dX2_writeTrim_13 : decode cX2_writeTrim 13 = .ok (.getfield 46, 3) := by decide +kernel
theorem dX2_writeTrim_16 : decode cX2_writeTrim 16 = .ok (.iconst 1, 1) := by decide +kernel
theorem dX2_writeTrim_17 : decode cX2_writeTrim 17 = .ok (.iadd, 1) := by decide +kernel
theorem dX2_writeTrim_18 : decode cX2_writeTrim 18 = .ok (.putfield 46, 3) := by decide +kernel
theorem dX2_writeTrim_21 : decode cX2_writeTrim 21 = .ok (.return_, 1) := by decide +kernel
theorem dX2_fibreStillThere_0 : decode cX2_fibreStillThere 0 = .ok (.iconst 0, 1) := by decide +kernel
theorem dX2_fibreStillThere_1 : decode cX2_fibreStillThere 1 = .ok (.istore_n 1, 1) := by decide +kernel
theorem dX2_fibreStillThere_2 : decode cX2_fibreStillThere 2 = .ok (.iconst 0, 1) := by decide +kernel
theorem dX2_fibreStillThere_3 : decode cX2_fibreStillThere 3 = .ok (.istore_n 2, 1) := by decide +kernel
theorem dX2_fibreStillThere_4 : decode cX2_fibreStillThere 4 = .ok (.iload_n 2, 1) := by decide +kernel
theorem dX2_fibreStillThere_5 : decode cX2_fibreStillThere 5 = .ok (.aload_n 0, 1) := by decide +kernel
theorem dX2_fibreStillThere_6 : decode cX2_fibreStillThere 6 = .ok (.getfield 25, 3) := by decide +kernel
theorem dX2_fibreStillThere_9 : decode cX2_fibreStillThere 9 = .ok (.if_icmp .ge 32, 3) := by decide +kernel
theorem dX2_fibreStillThere_12 : decode cX2_fibreStillThere 12 = .ok (.iload_n 1, 1) := by decide +kernel
theorem dX2_fibreStillThere_13 : decode cX2_fibreStillThere 13 = .ok (.aload_n 0, 1) := by decide +kernel
theorem dX2_fibreStillThere_14 : decode cX2_fibreStillThere 14 = .ok (.getfield 15, 3) := by decide +kernel
theorem dX2_fibreStillThere_17 : decode cX2_fibreStillThere 17 = .ok (.iload_n 2, 1) := by decide +kernel
theorem dX2_fibreStillThere_18 : decode cX2_fibreStillThere 18 = .ok (.iaload, 1) := by decide +kernel
theorem dX2_fibreStillThere_19 : decode cX2_fibreStillThere 19 = .ok (.aload_n 0, 1) := by decide +kernel
theorem dX2_fibreStillThere_20 : decode cX2_fibreStillThere 20 = .ok (.getfield 19, 3) := by decide +kernel
theorem dX2_fibreStillThere_23 : decode cX2_fibreStillThere 23 = .ok (.iload_n 2, 1) := by decide +kernel
theorem dX2_fibreStillThere_24 : decode cX2_fibreStillThere 24 = .ok (.iaload, 1) := by decide +kernel
theorem dX2_fibreStillThere_25 : decode cX2_fibreStillThere 25 = .ok (.isub, 1) := by decide +kernel
theorem dX2_fibreStillThere_26 : decode cX2_fibreStillThere 26 = .ok (.aload_n 0, 1) := by decide +kernel
theorem dX2_fibreStillThere_27 : decode cX2_fibreStillThere 27 = .ok (.getfield 22, 3) := by decide +kernel
theorem dX2_fibreStillThere_30 : decode cX2_fibreStillThere 30 = .ok (.iload_n 2, 1) := by decide +kernel
theorem dX2_fibreStillThere_31 : decode cX2_fibreStillThere 31 = .ok (.iaload, 1) := by decide +kernel
theorem dX2_fibreStillThere_32 : decode cX2_fibreStillThere 32 = .ok (.isub, 1) := by decide +kernel
theorem dX2_fibreStillThere_33 : decode cX2_fibreStillThere 33 = .ok (.iadd, 1) := by decide +kernel
theorem dX2_fibreStillThere_34 : decode cX2_fibreStillThere 34 = .ok (.istore_n 1, 1) := by decide +kernel
theorem dX2_fibreStillThere_35 : decode cX2_fibreStillThere 35 = .ok (.iinc 2 1, 3) := by decide +kernel
theorem dX2_fibreStillThere_38 : decode cX2_fibreStillThere 38 = .ok (.goto (-34), 3) := by decide +kernel
theorem dX2_fibreStillThere_41 : decode cX2_fibreStillThere 41 = .ok (.iload_n 1, 1) := by decide +kernel
theorem dX2_fibreStillThere_42 : decode cX2_fibreStillThere 42 = .ok (.ireturn, 1) := by decide +kernel
theorem dX3_init_0 : decode cX3_init 0 = .ok (.aload_n 0, 1) := by decide +kernel
theorem dX3_init_1 : decode cX3_init 1 = .ok (.invokespecial 3, 3) := by decide +kernel
theorem dX3_init_4 : decode cX3_init 4 = .ok (.aload_n 0, 1) := by decide +kernel
theorem dX3_init_5 : decode cX3_init 5 = .ok (.bipush 10, 2) := by decide +kernel
theorem dX3_init_7 : decode cX3_init 7 = .ok (.newarray .int, 2) := by decide +kernel
theorem dX3_init_9 : decode cX3_init 9 = .ok (.putfield 9, 3) := by decide +kernel
theorem dX3_init_12 : decode cX3_init 12 = .ok (.aload_n 0, 1) := by decide +kernel
theorem dX3_init_13 : decode cX3_init 13 = .ok (.bipush 10, 2) := by decide +kernel
theorem dX3_init_15 : decode cX3_init 15 = .ok (.newarray .int, 2) := by decide +kernel
theorem dX3_init_17 : decode cX3_init 17 = .ok (.putfield 15, 3) := by decide +kernel
theorem dX3_init_20 : decode cX3_init 20 = .ok (.aload_n 0, 1) := by decide +kernel
theorem dX3_init_21 : decode cX3_init 21 = .ok (.bipush 10, 2) := by decide +kernel
theorem dX3_init_23 : decode cX3_init 23 = .ok (.newarray .int, 2) := by decide +kernel
theorem dX3_init_25 : decode cX3_init 25 = .ok (.putfield 18, 3) := by decide +kernel
theorem dX3_init_28 : decode cX3_init 28 = .ok (.aload_n 0, 1) := by decide +kernel
theorem dX3_init_29 : decode cX3_init 29 = .ok (.bipush 10, 2) := by decide +kernel
theorem dX3_init_31 : decode cX3_init 31 = .ok (.newarray .int, 2) := by decide +kernel
theorem dX3_init_33 : decode cX3_init 33 = .ok (.putfield 21, 3) := by decide +kernel
theorem dX3_init_36 : decode cX3_init 36 = .ok (.return_, 1) := by decide +kernel
theorem dX3_has_0 : decode cX3_has 0 = .ok (.iload_n 1, 1) := by decide +kernel
theorem dX3_has_1 : decode cX3_has 1 = .ok (.ifCond .lt 15, 3) := by decide +kernel
theorem dX3_has_4 : decode cX3_has 4 = .ok (.iload_n 1, 1) := by decide +kernel
theorem dX3_has_5 : decode cX3_has 5 = .ok (.aload_n 0, 1) := by decide +kernel
theorem dX3_has_6 : decode cX3_has 6 = .ok (.getfield 24, 3) := by decide +kernel
theorem dX3_has_9 : decode cX3_has 9 = .ok (.if_icmp .ge 7, 3) := by decide +kernel
theorem dX3_has_12 : decode cX3_has 12 = .ok (.iconst 1, 1) := by decide +kernel
theorem dX3_has_13 : decode cX3_has 13 = .ok (.goto 4, 3) := by decide +kernel
theorem dX3_has_16 : decode cX3_has 16 = .ok (.iconst 0, 1) := by decide +kernel
theorem dX3_has_17 : decode cX3_has 17 = .ok (.ireturn, 1) := by decide +kernel
theorem dX3_isFull_0 : decode cX3_isFull 0 = .ok (.aload_n 0, 1) := by decide +kernel
theorem dX3_isFull_1 : decode cX3_isFull 1 = .ok (.getfield 24, 3) := by decide +kernel
theorem dX3_isFull_4 : decode cX3_isFull 4 = .ok (.bipush 10, 2) := by decide +kernel
theorem dX3_isFull_6 : decode cX3_isFull 6 = .ok (.if_icmp .lt 7, 3) := by decide +kernel
theorem dX3_isFull_9 : decode cX3_isFull 9 = .ok (.iconst 1, 1) := by decide +kernel
theorem dX3_isFull_10 : decode cX3_isFull 10 = .ok (.goto 4, 3) := by decide +kernel
theorem dX3_isFull_13 : decode cX3_isFull 13 = .ok (.iconst 0, 1) := by decide +kernel
theorem dX3_isFull_14 : decode cX3_isFull 14 = .ok (.ireturn, 1) := by decide +kernel
set_option maxRecDepth 20000 in
theorem ggX3_write_X3_isFull : GoodIn wsX3_write wsX3_isFull := goodIn_r _ [10, 1, 11, 12, 13, 14, 15] (by decide +kernel) (by decide +kernel)
set_option maxRecDepth 20000 in
theorem gX3_write_X3_isFull : GoodIn wsX3_write (wsV RX3 28 RX3 yX3_isFull wsX3_isFull) := goodIn_app (goodIn_of _ (by decide +kernel)) ggX3_write_X3_isFull
theorem dX3_write_0 : decode cX3_write 0 = .ok (.aload_n 0, 1) := by decide +kernel
theorem dX3_write_1 : decode cX3_write 1 = .ok (.invokevirtual 28, 3) := by decide +kernel
theorem dX3_write_4 : decode cX3_write 4 = .ok (.ifCond .eq 5, 3) := by decide +kernel
theorem dX3_write_7 : decode cX3_write 7 = .ok (.iconst (-1), 1) := by decide +kernel
theorem dX3_write_8 : decode cX3_write 8 = .ok (.ireturn, 1) := by decide +kernel
theorem dX3_write_9 : decode cX3_write 9 = .ok (.aload_n 0, 1) := by decide +kernel
theorem dX3_write_10 : decode cX3_write 10 = .ok (.getfield 24, 3) := by decide +kernel
theorem dX3_write_13 : decode cX3_write 13 = .ok (.istore 4, 2) := by decide +kernel
theorem dX3_write_15 : decode cX3_write 15 = .ok (.aload_n 0, 1) := by decide +kernel
theorem dX3_write_16 : decode cX3_write 16 = .ok (.getfield 9, 3) := by decide +kernel
theorem dX3_write_19 : decode cX3_write 19 = .ok (.iload 4, 2) := by decide +kernel
theorem dX3_write_21 : decode cX3_write 21 = .ok (.iload_n 1, 1) := by decide +kernel
theorem dX3_write_22 : decode cX3_write 22 = .ok (.iastore, 1) := by decide +kernel
theorem dX3_write_23 : decode cX3_write 23 = .ok (.aload_n 0, 1) := by decide +kernel
theorem dX3_write_24 : decode cX3_write 24 = .ok (.getfield 15, 3) := by decide +kernel
theorem dX3_write_27 : decode cX3_write 27 = .ok (.iload 4, 2) := by decide +kernel
theorem dX3_write_29 : decode cX3_write 29 = .ok (.iload_n 2, 1) := by decide +kernel
theorem dX3_write_30 : decode cX3_write 30 = .ok (.iastore, 1) := by decide +kernel
theorem dX3_write_31 : decode cX3_write 31 = .ok (.aload_n 0, 1) := by decide +kernel
theorem dX3_write_32 : decode cX3_write 32 = .ok (.getfield 18, 3) := by decide +kernel
theorem dX3_write_35 : decode cX3_write 35 = .ok (.iload 4, 2) := by decide +kernel
theorem dX3_write_37 : decode cX3_write 37 = .ok (.iconst 0, 1) := by decide +kernel
theorem dX3_write_38 : decode cX3_write 38 = .ok (.iastore, 1) := by decide +kernel
theorem dX3_write_39 : decode cX3_write 39 = .ok (.aload_n 0, 1) := by decide +kernel
theorem dX3_write_40 : decode cX3_write 40 = .ok (.getfield 21, 3) := by decide +kernel
theorem dX3_write_43 : decode cX3_write 43 = .ok (.iload 4, 2) := by decide +kernel
theorem dX3_write_45 : decode cX3_write 45 = .ok (.iload_n 3, 1) := by decide +kernel
theorem dX3_write_46 : decode cX3_write 46 = .ok (.iastore, 1) := by decide +kernel
theorem dX3_write_47 : decode cX3_write 47 = .ok (.aload_n 0, 1) := by decide +kernel
theorem dX3_write_48 : decode cX3_write 48 = .ok (.dup, 1) := by decide +kernel
theorem dX3_write_49 : decode cX3_write 49 = .ok (.getfield 24, 3) := by decide +kernel
theorem dX3_write_52 : decode cX3_write 52 = .ok (.iconst 1, 1) := by decide +kernel
theorem dX3_write_53 : decode cX3_write 53 = .ok (.iadd, 1) := by decide +kernel
theorem dX3_write_54 : decode cX3_write 54 = .ok (.putfield 24, 3) := by decide +kernel
theorem dX3_write_57 : decode cX3_write 57 = .ok (.iload 4, 2) := by decide +kernel
theorem dX3_write_59 : decode cX3_write 59 = .ok (.ireturn, 1) := by decide +kernel
theorem dX3_widestOpen_0 : decode cX3_widestOpen 0 = .ok (.iconst 0, 1) := by decide +kernel
theorem dX3_widestOpen_1 : decode cX3_widestOpen 1 = .ok (.istore_n 1, 1) := by decide +kernel
theorem dX3_widestOpen_2 : decode cX3_widestOpen 2 = .ok (.iconst 0, 1) := by decide +kernel
end
section
theorem dX3_widestOpen_3 : decode cX3_widestOpen 3 = .ok (.istore_n 2, 1) := by decide +kernel
theorem dX3_widestOpen_4 : decode cX3_widestOpen 4 = .ok (.iload_n 2, 1) := by decide +kernel
theorem dX3_widestOpen_5 : decode cX3_widestOpen 5 = .ok (.aload_n 0, 1) := by decide +kernel
theorem dX3_widestOpen_6 : decode cX3_widestOpen 6 = .ok (.getfield 24, 3) := by decide +kernel
theorem dX3_widestOpen_9 : decode cX3_widestOpen 9 = .ok (.if_icmp .ge 29, 3) := by decide +kernel
theorem dX3_widestOpen_12 : decode cX3_widestOpen 12 = .ok (.aload_n 0, 1) := by decide +kernel
theorem dX3_widestOpen_13 : decode cX3_widestOpen 13 = .ok (.getfield 21, 3) := by decide +kernel
theorem dX3_widestOpen_16 : decode cX3_widestOpen 16 = .ok (.iload_n 2, 1) := by decide +kernel
theorem dX3_widestOpen_17 : decode cX3_widestOpen 17 = .ok (.iaload, 1) := by decide +kernel
theorem dX3_widestOpen_18 : decode cX3_widestOpen 18 = .ok (.ifCond .le 14, 3) := by decide +kernel
theorem dX3_widestOpen_21 : decode cX3_widestOpen 21 = .ok (.iload_n 1, 1) := by decide +kernel
theorem dX3_widestOpen_22 : decode cX3_widestOpen 22 = .ok (.aload_n 0, 1) := by decide +kernel
theorem dX3_widestOpen_23 : decode cX3_widestOpen 23 = .ok (.getfield 15, 3) := by decide +kernel
theorem dX3_widestOpen_26 : decode cX3_widestOpen 26 = .ok (.iload_n 2, 1) := by decide +kernel
theorem dX3_widestOpen_27 : decode cX3_widestOpen 27 = .ok (.iaload, 1) := by decide +kernel
theorem dX3_widestOpen_28 : decode cX3_widestOpen 28 = .ok (.invokestatic 32, 3) := by decide +kernel
theorem dX3_widestOpen_31 : decode cX3_widestOpen 31 = .ok (.istore_n 1, 1) := by decide +kernel
theorem dX3_widestOpen_32 : decode cX3_widestOpen 32 = .ok (.iinc 2 1, 3) := by decide +kernel
theorem dX3_widestOpen_35 : decode cX3_widestOpen 35 = .ok (.goto (-31), 3) := by decide +kernel
theorem dX3_widestOpen_38 : decode cX3_widestOpen 38 = .ok (.iload_n 1, 1) := by decide +kernel
theorem dX3_widestOpen_39 : decode cX3_widestOpen 39 = .ok (.ireturn, 1) := by decide +kernel
theorem dX3_rollsLacking_0 : decode cX3_rollsLacking 0 = .ok (.iconst 0, 1) := by decide +kernel
theorem dX3_rollsLacking_1 : decode cX3_rollsLacking 1 = .ok (.istore_n 2, 1) := by decide +kernel
theorem dX3_rollsLacking_2 : decode cX3_rollsLacking 2 = .ok (.iconst 0, 1) := by decide +kernel
theorem dX3_rollsLacking_3 : decode cX3_rollsLacking 3 = .ok (.istore_n 3, 1) := by decide +kernel
theorem dX3_rollsLacking_4 : decode cX3_rollsLacking 4 = .ok (.iload_n 3, 1) := by decide +kernel
theorem dX3_rollsLacking_5 : decode cX3_rollsLacking 5 = .ok (.aload_n 0, 1) := by decide +kernel
theorem dX3_rollsLacking_6 : decode cX3_rollsLacking 6 = .ok (.getfield 24, 3) := by decide +kernel
theorem dX3_rollsLacking_9 : decode cX3_rollsLacking 9 = .ok (.if_icmp .ge 28, 3) := by decide +kernel
theorem dX3_rollsLacking_12 : decode cX3_rollsLacking 12 = .ok (.aload_n 0, 1) := by decide +kernel
theorem dX3_rollsLacking_13 : decode cX3_rollsLacking 13 = .ok (.getfield 9, 3) := by decide +kernel
theorem dX3_rollsLacking_16 : decode cX3_rollsLacking 16 = .ok (.iload_n 3, 1) := by decide +kernel
theorem dX3_rollsLacking_17 : decode cX3_rollsLacking 17 = .ok (.iaload, 1) := by decide +kernel
theorem dX3_rollsLacking_18 : decode cX3_rollsLacking 18 = .ok (.iload_n 1, 1) := by decide +kernel
theorem dX3_rollsLacking_19 : decode cX3_rollsLacking 19 = .ok (.if_icmp .ne 12, 3) := by decide +kernel
theorem dX3_rollsLacking_22 : decode cX3_rollsLacking 22 = .ok (.iload_n 2, 1) := by decide +kernel
theorem dX3_rollsLacking_23 : decode cX3_rollsLacking 23 = .ok (.aload_n 0, 1) := by decide +kernel
theorem dX3_rollsLacking_24 : decode cX3_rollsLacking 24 = .ok (.getfield 21, 3) := by decide +kernel
theorem dX3_rollsLacking_27 : decode cX3_rollsLacking 27 = .ok (.iload_n 3, 1) := by decide +kernel
theorem dX3_rollsLacking_28 : decode cX3_rollsLacking 28 = .ok (.iaload, 1) := by decide +kernel
theorem dX3_rollsLacking_29 : decode cX3_rollsLacking 29 = .ok (.iadd, 1) := by decide +kernel
theorem dX3_rollsLacking_30 : decode cX3_rollsLacking 30 = .ok (.istore_n 2, 1) := by decide +kernel
theorem dX3_rollsLacking_31 : decode cX3_rollsLacking 31 = .ok (.iinc 3 1, 3) := by decide +kernel
theorem dX3_rollsLacking_34 : decode cX3_rollsLacking 34 = .ok (.goto (-30), 3) := by decide +kernel
theorem dX3_rollsLacking_37 : decode cX3_rollsLacking 37 = .ok (.iload_n 2, 1) := by decide +kernel
theorem dX3_rollsLacking_38 : decode cX3_rollsLacking 38 = .ok (.ireturn, 1) := by decide +kernel
theorem dX3_takeOff_0 : decode cX3_takeOff 0 = .ok (.iconst 0, 1) := by decide +kernel
theorem dX3_takeOff_1 : decode cX3_takeOff 1 = .ok (.istore_n 2, 1) := by decide +kernel
theorem dX3_takeOff_2 : decode cX3_takeOff 2 = .ok (.iconst 0, 1) := by decide +kernel
theorem dX3_takeOff_3 : decode cX3_takeOff 3 = .ok (.istore_n 3, 1) := by decide +kernel
theorem dX3_takeOff_4 : decode cX3_takeOff 4 = .ok (.iload_n 3, 1) := by decide +kernel
theorem dX3_takeOff_5 : decode cX3_takeOff 5 = .ok (.aload_n 0, 1) := by decide +kernel
theorem dX3_takeOff_6 : decode cX3_takeOff 6 = .ok (.getfield 24, 3) := by decide +kernel
theorem dX3_takeOff_9 : decode cX3_takeOff 9 = .ok (.if_icmp .ge 45, 3) := by decide +kernel
theorem dX3_takeOff_12 : decode cX3_takeOff 12 = .ok (.iload_n 3, 1) := by decide +kernel
theorem dX3_takeOff_13 : decode cX3_takeOff 13 = .ok (.aload_n 1, 1) := by decide +kernel
theorem dX3_takeOff_14 : decode cX3_takeOff 14 = .ok (.arraylength, 1) := by decide +kernel
theorem dX3_takeOff_15 : decode cX3_takeOff 15 = .ok (.if_icmp .ge 39, 3) := by decide +kernel
theorem dX3_takeOff_18 : decode cX3_takeOff 18 = .ok (.aload_n 0, 1) := by decide +kernel
theorem dX3_takeOff_19 : decode cX3_takeOff 19 = .ok (.getfield 18, 3) := by decide +kernel
theorem dX3_takeOff_22 : decode cX3_takeOff 22 = .ok (.iload_n 3, 1) := by decide +kernel
theorem dX3_takeOff_23 : decode cX3_takeOff 23 = .ok (.dup2, 1) := by decide +kernel
theorem dX3_takeOff_24 : decode cX3_takeOff 24 = .ok (.iaload, 1) := by decide +kernel
theorem dX3_takeOff_25 : decode cX3_takeOff 25 = .ok (.aload_n 1, 1) := by decide +kernel
theorem dX3_takeOff_26 : decode cX3_takeOff 26 = .ok (.iload_n 3, 1) := by decide +kernel
theorem dX3_takeOff_27 : decode cX3_takeOff 27 = .ok (.iaload, 1) := by decide +kernel
theorem dX3_takeOff_28 : decode cX3_takeOff 28 = .ok (.iadd, 1) := by decide +kernel
theorem dX3_takeOff_29 : decode cX3_takeOff 29 = .ok (.iastore, 1) := by decide +kernel
theorem dX3_takeOff_30 : decode cX3_takeOff 30 = .ok (.aload_n 0, 1) := by decide +kernel
theorem dX3_takeOff_31 : decode cX3_takeOff 31 = .ok (.getfield 21, 3) := by decide +kernel
theorem dX3_takeOff_34 : decode cX3_takeOff 34 = .ok (.iload_n 3, 1) := by decide +kernel
theorem dX3_takeOff_35 : decode cX3_takeOff 35 = .ok (.dup2, 1) := by decide +kernel
theorem dX3_takeOff_36 : decode cX3_takeOff 36 = .ok (.iaload, 1) := by decide +kernel
theorem dX3_takeOff_37 : decode cX3_takeOff 37 = .ok (.aload_n 1, 1) := by decide +kernel
theorem dX3_takeOff_38 : decode cX3_takeOff 38 = .ok (.iload_n 3, 1) := by decide +kernel
theorem dX3_takeOff_39 : decode cX3_takeOff 39 = .ok (.iaload, 1) := by decide +kernel
theorem dX3_takeOff_40 : decode cX3_takeOff 40 = .ok (.isub, 1) := by decide +kernel
theorem dX3_takeOff_41 : decode cX3_takeOff 41 = .ok (.iastore, 1) := by decide +kernel
theorem dX3_takeOff_42 : decode cX3_takeOff 42 = .ok (.iload_n 2, 1) := by decide +kernel
theorem dX3_takeOff_43 : decode cX3_takeOff 43 = .ok (.aload_n 1, 1) := by decide +kernel
theorem dX3_takeOff_44 : decode cX3_takeOff 44 = .ok (.iload_n 3, 1) := by decide +kernel
theorem dX3_takeOff_45 : decode cX3_takeOff 45 = .ok (.iaload, 1) := by decide +kernel
theorem dX3_takeOff_46 : decode cX3_takeOff 46 = .ok (.iadd, 1) := by decide +kernel
theorem dX3_takeOff_47 : decode cX3_takeOff 47 = .ok (.istore_n 2, 1) := by decide +kernel
theorem dX3_takeOff_48 : decode cX3_takeOff 48 = .ok (.iinc 3 1, 3) := by decide +kernel
theorem dX3_takeOff_51 : decode cX3_takeOff 51 = .ok (.goto (-47), 3) := by decide +kernel
theorem dX3_takeOff_54 : decode cX3_takeOff 54 = .ok (.iload_n 2, 1) := by decide +kernel
theorem dX3_takeOff_55 : decode cX3_takeOff 55 = .ok (.ireturn, 1) := by decide +kernel
set_option maxRecDepth 20000 in
theorem ggX4_init_X3_init : GoodIn wsX4_init wsX3_init := goodIn_r _ [27, 28, 2, 3, 4, 29, 30, 31, 32, 69, 70, 71, 72, 73] (by decide +kernel) (by decide +kernel)
set_option maxRecDepth 20000 in
theorem gX4_init_X3_init_n26 : GoodIn wsX4_init (wsX3_init) := ggX4_init_X3_init
set_option maxRecDepth 20000 in
theorem ggX4_init_X1_init : GoodIn wsX4_init wsX1_init := goodIn_r _ [34, 35, 2, 3, 4, 36, 37, 38, 39, 40, 41, 74, 75, 76, 77, 78, 79, 80, 81] (by decide +kernel) (by decide +kernel)
set_option maxRecDepth 20000 in
theorem gX4_init_X1_init_n33 : GoodIn wsX4_init (wsX1_init) := ggX4_init_X1_init
set_option maxRecDepth 20000 in
theorem ggX4_init_X0_init : GoodIn wsX4_init wsX0_init := goodIn_r _ [43, 44, 2, 3, 45, 46, 47, 82, 83, 84] (by decide +kernel) (by decide +kernel)
set_option maxRecDepth 20000 in
theorem gX4_init_X0_init_n40 : GoodIn wsX4_init (wsX0_init) := ggX4_init_X0_init
set_option maxRecDepth 20000 in
theorem ggX4_init_X2_init : GoodIn wsX4_init wsX2_init := goodIn_r _ [49, 50, 2, 3, 51, 52, 4, 53, 54, 55, 85, 86, 87, 88, 89, 90, 91, 92, 93, 94, 95] (by decide +kernel) (by decide +kernel)
set_option maxRecDepth 20000 in
theorem gX4_init_X2_init_n47 : GoodIn wsX4_init (wsX2_init) := ggX4_init_X2_init
theorem dX4_init_0 : decode cX4_init 0 = .ok (.aload_n 0, 1) := by decide +kernel
theorem dX4_init_1 : decode cX4_init 1 = .ok (.invokespecial 1, 3) := by decide +kernel
theorem dX4_init_4 : decode cX4_init 4 = .ok (.aload_n 0, 1) := by decide +kernel
theorem dX4_init_5 : decode cX4_init 5 = .ok (.bipush 6, 2) := by decide +kernel
theorem dX4_init_7 : decode cX4_init 7 = .ok (.newarray .int, 2) := by decide +kernel
theorem dX4_init_9 : decode cX4_init 9 = .ok (.putfield 9, 3) := by decide +kernel
theorem dX4_init_12 : decode cX4_init 12 = .ok (.aload_n 0, 1) := by decide +kernel
theorem dX4_init_13 : decode cX4_init 13 = .ok (.sipush 600, 3) := by decide +kernel
theorem dX4_init_16 : decode cX4_init 16 = .ok (.putfield 13, 3) := by decide +kernel
theorem dX4_init_19 : decode cX4_init 19 = .ok (.aload_n 0, 1) := by decide +kernel
theorem dX4_init_20 : decode cX4_init 20 = .ok (.iconst (-1), 1) := by decide +kernel
theorem dX4_init_21 : decode cX4_init 21 = .ok (.putfield 17, 3) := by decide +kernel
theorem dX4_init_24 : decode cX4_init 24 = .ok (.aload_n 0, 1) := by decide +kernel
theorem dX4_init_25 : decode cX4_init 25 = .ok (.iconst 1, 1) := by decide +kernel
theorem dX4_init_26 : decode cX4_init 26 = .ok (.putfield 20, 3) := by decide +kernel
theorem dX4_init_29 : decode cX4_init 29 = .ok (.aload_n 0, 1) := by decide +kernel
theorem dX4_init_30 : decode cX4_init 30 = .ok (.new 24, 3) := by decide +kernel
theorem dX4_init_33 : decode cX4_init 33 = .ok (.dup, 1) := by decide +kernel
theorem dX4_init_34 : decode cX4_init 34 = .ok (.invokespecial 26, 3) := by decide +kernel
theorem dX4_init_37 : decode cX4_init 37 = .ok (.putfield 27, 3) := by decide +kernel
theorem dX4_init_40 : decode cX4_init 40 = .ok (.aload_n 0, 1) := by decide +kernel
theorem dX4_init_41 : decode cX4_init 41 = .ok (.new 31, 3) := by decide +kernel
theorem dX4_init_44 : decode cX4_init 44 = .ok (.dup, 1) := by decide +kernel
theorem dX4_init_45 : decode cX4_init 45 = .ok (.invokespecial 33, 3) := by decide +kernel
theorem dX4_init_48 : decode cX4_init 48 = .ok (.putfield 34, 3) := by decide +kernel
theorem dX4_init_51 : decode cX4_init 51 = .ok (.aload_n 0, 1) := by decide +kernel
theorem dX4_init_52 : decode cX4_init 52 = .ok (.new 38, 3) := by decide +kernel
theorem dX4_init_55 : decode cX4_init 55 = .ok (.dup, 1) := by decide +kernel
theorem dX4_init_56 : decode cX4_init 56 = .ok (.invokespecial 40, 3) := by decide +kernel
theorem dX4_init_59 : decode cX4_init 59 = .ok (.putfield 41, 3) := by decide +kernel
theorem dX4_init_62 : decode cX4_init 62 = .ok (.aload_n 0, 1) := by decide +kernel
theorem dX4_init_63 : decode cX4_init 63 = .ok (.new 45, 3) := by decide +kernel
theorem dX4_init_66 : decode cX4_init 66 = .ok (.dup, 1) := by decide +kernel
theorem dX4_init_67 : decode cX4_init 67 = .ok (.invokespecial 47, 3) := by decide +kernel
theorem dX4_init_70 : decode cX4_init 70 = .ok (.putfield 48, 3) := by decide +kernel
theorem dX4_init_73 : decode cX4_init 73 = .ok (.aload_n 0, 1) := by decide +kernel
theorem dX4_init_74 : decode cX4_init 74 = .ok (.bipush 20, 2) := by decide +kernel
theorem dX4_init_76 : decode cX4_init 76 = .ok (.putfield 52, 3) := by decide +kernel
theorem dX4_init_79 : decode cX4_init 79 = .ok (.return_, 1) := by decide +kernel
set_option maxRecDepth 20000 in
theorem ggX4_addGrade_X4_isWithin : GoodIn wsX4_addGrade wsX4_isWithin := goodIn_r _ [10] (by decide +kernel) (by decide +kernel)
set_option maxRecDepth 20000 in
theorem gX4_addGrade_X4_isWithin : GoodIn wsX4_addGrade (va_wsS RX4 55 yX4_isWithin wsX4_isWithin) := goodIn_app (goodIn_of _ (by decide +kernel)) ggX4_addGrade_X4_isWithin
set_option maxRecDepth 20000 in
theorem ggX4_addGrade_X4_isWeightTaken : GoodIn wsX4_addGrade wsX4_isWeightTaken := goodIn_r _ [14, 5, 6, 15, 16, 17, 18, 19, 20, 21, 22, 23, 24, 25, 26, 27] (by decide +kernel) (by decide +kernel)
set_option maxRecDepth 20000 in
theorem gX4_addGrade_X4_isWeightTaken : GoodIn wsX4_addGrade (wsV RX4 59 RX4 yX4_isWeightTaken wsX4_isWeightTaken) := goodIn_app (goodIn_of _ (by decide +kernel)) ggX4_addGrade_X4_isWeightTaken
theorem dX4_addGrade_0 : decode cX4_addGrade 0 = .ok (.iload_n 1, 1) := by decide +kernel
theorem dX4_addGrade_1 : decode cX4_addGrade 1 = .ok (.bipush 40, 2) := by decide +kernel
theorem dX4_addGrade_3 : decode cX4_addGrade 3 = .ok (.sipush 200, 3) := by decide +kernel
theorem dX4_addGrade_6 : decode cX4_addGrade 6 = .ok (.invokestatic 55, 3) := by decide +kernel
theorem dX4_addGrade_9 : decode cX4_addGrade 9 = .ok (.ifCond .eq 11, 3) := by decide +kernel
theorem dX4_addGrade_12 : decode cX4_addGrade 12 = .ok (.aload_n 0, 1) := by decide +kernel
theorem dX4_addGrade_13 : decode cX4_addGrade 13 = .ok (.iload_n 1, 1) := by decide +kernel
theorem dX4_addGrade_14 : decode cX4_addGrade 14 = .ok (.invokevirtual 59, 3) := by decide +kernel
theorem dX4_addGrade_17 : decode cX4_addGrade 17 = .ok (.ifCond .eq 13, 3) := by decide +kernel
theorem dX4_addGrade_20 : decode cX4_addGrade 20 = .ok (.new 63, 3) := by decide +kernel
theorem dX4_addGrade_23 : decode cX4_addGrade 23 = .ok (.dup, 1) := by decide +kernel
theorem dX4_addGrade_24 : decode cX4_addGrade 24 = .ok (.ldc 65, 2) := by decide +kernel
theorem dX4_addGrade_26 : decode cX4_addGrade 26 = .ok (.invokespecial 67, 3) := by decide +kernel
theorem dX4_addGrade_29 : decode cX4_addGrade 29 = .ok (.athrow, 1) := by decide +kernel
theorem dX4_addGrade_30 : decode cX4_addGrade 30 = .ok (.aload_n 0, 1) := by decide +kernel
theorem dX4_addGrade_31 : decode cX4_addGrade 31 = .ok (.getfield 70, 3) := by decide +kernel
theorem dX4_addGrade_34 : decode cX4_addGrade 34 = .ok (.aload_n 0, 1) := by decide +kernel
theorem dX4_addGrade_35 : decode cX4_addGrade 35 = .ok (.getfield 9, 3) := by decide +kernel
theorem dX4_addGrade_38 : decode cX4_addGrade 38 = .ok (.arraylength, 1) := by decide +kernel
theorem dX4_addGrade_39 : decode cX4_addGrade 39 = .ok (.if_icmp .lt 13, 3) := by decide +kernel
theorem dX4_addGrade_42 : decode cX4_addGrade 42 = .ok (.new 73, 3) := by decide +kernel
theorem dX4_addGrade_45 : decode cX4_addGrade 45 = .ok (.dup, 1) := by decide +kernel
theorem dX4_addGrade_46 : decode cX4_addGrade 46 = .ok (.ldc 75, 2) := by decide +kernel
theorem dX4_addGrade_48 : decode cX4_addGrade 48 = .ok (.invokespecial 77, 3) := by decide +kernel
theorem dX4_addGrade_51 : decode cX4_addGrade 51 = .ok (.athrow, 1) := by decide +kernel
theorem dX4_addGrade_52 : decode cX4_addGrade 52 = .ok (.aload_n 0, 1) := by decide +kernel
theorem dX4_addGrade_53 : decode cX4_addGrade 53 = .ok (.getfield 70, 3) := by decide +kernel
theorem dX4_addGrade_56 : decode cX4_addGrade 56 = .ok (.istore_n 2, 1) := by decide +kernel
theorem dX4_addGrade_57 : decode cX4_addGrade 57 = .ok (.aload_n 0, 1) := by decide +kernel
theorem dX4_addGrade_58 : decode cX4_addGrade 58 = .ok (.getfield 9, 3) := by decide +kernel
theorem dX4_addGrade_61 : decode cX4_addGrade 61 = .ok (.iload_n 2, 1) := by decide +kernel
theorem dX4_addGrade_62 : decode cX4_addGrade 62 = .ok (.iload_n 1, 1) := by decide +kernel
theorem dX4_addGrade_63 : decode cX4_addGrade 63 = .ok (.iastore, 1) := by decide +kernel
theorem dX4_addGrade_64 : decode cX4_addGrade 64 = .ok (.aload_n 0, 1) := by decide +kernel
theorem dX4_addGrade_65 : decode cX4_addGrade 65 = .ok (.dup, 1) := by decide +kernel
theorem dX4_addGrade_66 : decode cX4_addGrade 66 = .ok (.getfield 70, 3) := by decide +kernel
theorem dX4_addGrade_69 : decode cX4_addGrade 69 = .ok (.iconst 1, 1) := by decide +kernel
theorem dX4_addGrade_70 : decode cX4_addGrade 70 = .ok (.iadd, 1) := by decide +kernel
theorem dX4_addGrade_71 : decode cX4_addGrade 71 = .ok (.putfield 70, 3) := by decide +kernel
theorem dX4_addGrade_74 : decode cX4_addGrade 74 = .ok (.iload_n 2, 1) := by decide +kernel
theorem dX4_addGrade_75 : decode cX4_addGrade 75 = .ok (.ireturn, 1) := by decide +kernel
set_option maxRecDepth 20000 in
theorem ggX4_setWidth_X4_isWithin : GoodIn wsX4_setWidth wsX4_isWithin := goodIn_r _ [10] (by decide +kernel) (by decide +kernel)
set_option maxRecDepth 20000 in
theorem gX4_setWidth_X4_isWithin : GoodIn wsX4_setWidth (va_wsS RX4 55 yX4_isWithin wsX4_isWithin) := goodIn_app (goodIn_of _ (by decide +kernel)) ggX4_setWidth_X4_isWithin
set_option maxRecDepth 20000 in
theorem ggX4_setWidth_X3_widestOpen : GoodIn wsX4_setWidth wsX3_widestOpen := goodIn_r _ [15, 16, 17, 18, 19, 20, 21, 22, 36, 37, 38, 39, 40] (by decide +kernel) (by decide +kernel)
set_option maxRecDepth 20000 in
theorem gX4_setWidth_X3_widestOpen : GoodIn wsX4_setWidth (wsV RX4 80 RX3 yX3_widestOpen wsX3_widestOpen) := goodIn_app (goodIn_of _ (by decide +kernel)) ggX4_setWidth_X3_widestOpen
theorem dX4_setWidth_0 : decode cX4_setWidth 0 = .ok (.iload_n 1, 1) := by decide +kernel
theorem dX4_setWidth_1 : decode cX4_setWidth 1 = .ok (.sipush 200, 3) := by decide +kernel
theorem dX4_setWidth_4 : decode cX4_setWidth 4 = .ok (.sipush 800, 3) := by decide +kernel
theorem dX4_setWidth_7 : decode cX4_setWidth 7 = .ok (.invokestatic 55, 3) := by decide +kernel
theorem dX4_setWidth_10 : decode cX4_setWidth 10 = .ok (.ifCond .ne 13, 3) := by decide +kernel
theorem dX4_setWidth_13 : decode cX4_setWidth 13 = .ok (.new 63, 3) := by decide +kernel
theorem dX4_setWidth_16 : decode cX4_setWidth 16 = .ok (.dup, 1) := by decide +kernel
theorem dX4_setWidth_17 : decode cX4_setWidth 17 = .ok (.ldc 78, 2) := by decide +kernel
theorem dX4_setWidth_19 : decode cX4_setWidth 19 = .ok (.invokespecial 67, 3) := by decide +kernel
theorem dX4_setWidth_22 : decode cX4_setWidth 22 = .ok (.athrow, 1) := by decide +kernel
theorem dX4_setWidth_23 : decode cX4_setWidth 23 = .ok (.aload_n 0, 1) := by decide +kernel
theorem dX4_setWidth_24 : decode cX4_setWidth 24 = .ok (.getfield 27, 3) := by decide +kernel
theorem dX4_setWidth_27 : decode cX4_setWidth 27 = .ok (.invokevirtual 80, 3) := by decide +kernel
theorem dX4_setWidth_30 : decode cX4_setWidth 30 = .ok (.iload_n 1, 1) := by decide +kernel
theorem dX4_setWidth_31 : decode cX4_setWidth 31 = .ok (.if_icmp .le 13, 3) := by decide +kernel
theorem dX4_setWidth_34 : decode cX4_setWidth 34 = .ok (.new 73, 3) := by decide +kernel
theorem dX4_setWidth_37 : decode cX4_setWidth 37 = .ok (.dup, 1) := by decide +kernel
theorem dX4_setWidth_38 : decode cX4_setWidth 38 = .ok (.ldc 84, 2) := by decide +kernel
theorem dX4_setWidth_40 : decode cX4_setWidth 40 = .ok (.invokespecial 77, 3) := by decide +kernel
theorem dX4_setWidth_43 : decode cX4_setWidth 43 = .ok (.athrow, 1) := by decide +kernel
theorem dX4_setWidth_44 : decode cX4_setWidth 44 = .ok (.aload_n 0, 1) := by decide +kernel
theorem dX4_setWidth_45 : decode cX4_setWidth 45 = .ok (.getfield 13, 3) := by decide +kernel
theorem dX4_setWidth_48 : decode cX4_setWidth 48 = .ok (.istore_n 2, 1) := by decide +kernel
theorem dX4_setWidth_49 : decode cX4_setWidth 49 = .ok (.aload_n 0, 1) := by decide +kernel
theorem dX4_setWidth_50 : decode cX4_setWidth 50 = .ok (.iload_n 1, 1) := by decide +kernel
theorem dX4_setWidth_51 : decode cX4_setWidth 51 = .ok (.putfield 13, 3) := by decide +kernel
theorem dX4_setWidth_54 : decode cX4_setWidth 54 = .ok (.iload_n 2, 1) := by decide +kernel
theorem dX4_setWidth_55 : decode cX4_setWidth 55 = .ok (.ireturn, 1) := by decide +kernel
set_option maxRecDepth 20000 in
theorem ggX4_change_X4_isGrade : GoodIn wsX4_change wsX4_isGrade := goodIn_r _ [19, 20, 21, 22, 23, 24, 25, 26, 27, 28, 29, 30, 31, 32, 33] (by decide +kernel) (by decide +kernel)
set_option maxRecDepth 20000 in
theorem gX4_change_X4_isGrade : GoodIn wsX4_change (wsV RX4 86 RX4 yX4_isGrade wsX4_isGrade) := goodIn_app (goodIn_of _ (by decide +kernel)) ggX4_change_X4_isGrade
theorem dX4_change_0 : decode cX4_change 0 = .ok (.aload_n 0, 1) := by decide +kernel
theorem dX4_change_1 : decode cX4_change 1 = .ok (.iload_n 1, 1) := by decide +kernel
theorem dX4_change_2 : decode cX4_change 2 = .ok (.invokevirtual 86, 3) := by decide +kernel
theorem dX4_change_5 : decode cX4_change 5 = .ok (.ifCond .ne 13, 3) := by decide +kernel
theorem dX4_change_8 : decode cX4_change 8 = .ok (.new 89, 3) := by decide +kernel
theorem dX4_change_11 : decode cX4_change 11 = .ok (.dup, 1) := by decide +kernel
theorem dX4_change_12 : decode cX4_change 12 = .ok (.ldc 91, 2) := by decide +kernel
theorem dX4_change_14 : decode cX4_change 14 = .ok (.invokespecial 93, 3) := by decide +kernel
theorem dX4_change_17 : decode cX4_change 17 = .ok (.athrow, 1) := by decide +kernel
theorem dX4_change_18 : decode cX4_change 18 = .ok (.iload_n 1, 1) := by decide +kernel
theorem dX4_change_19 : decode cX4_change 19 = .ok (.aload_n 0, 1) := by decide +kernel
theorem dX4_change_20 : decode cX4_change 20 = .ok (.getfield 17, 3) := by decide +kernel
theorem dX4_change_23 : decode cX4_change 23 = .ok (.if_icmp .ne 13, 3) := by decide +kernel
theorem dX4_change_26 : decode cX4_change 26 = .ok (.new 63, 3) := by decide +kernel
theorem dX4_change_29 : decode cX4_change 29 = .ok (.dup, 1) := by decide +kernel
theorem dX4_change_30 : decode cX4_change 30 = .ok (.ldc 94, 2) := by decide +kernel
theorem dX4_change_32 : decode cX4_change 32 = .ok (.invokespecial 67, 3) := by decide +kernel
theorem dX4_change_35 : decode cX4_change 35 = .ok (.athrow, 1) := by decide +kernel
theorem dX4_change_36 : decode cX4_change 36 = .ok (.aload_n 0, 1) := by decide +kernel
theorem dX4_change_37 : decode cX4_change 37 = .ok (.getfield 96, 3) := by decide +kernel
theorem dX4_change_40 : decode cX4_change 40 = .ok (.ifCond .le 13, 3) := by decide +kernel
theorem dX4_change_43 : decode cX4_change 43 = .ok (.new 73, 3) := by decide +kernel
theorem dX4_change_46 : decode cX4_change 46 = .ok (.dup, 1) := by decide +kernel
theorem dX4_change_47 : decode cX4_change 47 = .ok (.ldc 99, 2) := by decide +kernel
theorem dX4_change_49 : decode cX4_change 49 = .ok (.invokespecial 77, 3) := by decide +kernel
theorem dX4_change_52 : decode cX4_change 52 = .ok (.athrow, 1) := by decide +kernel
theorem dX4_change_53 : decode cX4_change 53 = .ok (.iconst 1, 1) := by decide +kernel
theorem dX4_change_54 : decode cX4_change 54 = .ok (.istore_n 2, 1) := by decide +kernel
theorem dX4_change_55 : decode cX4_change 55 = .ok (.aload_n 0, 1) := by decide +kernel
theorem dX4_change_56 : decode cX4_change 56 = .ok (.aload_n 0, 1) := by decide +kernel
theorem dX4_change_57 : decode cX4_change 57 = .ok (.getfield 17, 3) := by decide +kernel
theorem dX4_change_60 : decode cX4_change 60 = .ok (.invokevirtual 86, 3) := by decide +kernel
theorem dX4_change_63 : decode cX4_change 63 = .ok (.ifCond .eq 43, 3) := by decide +kernel
theorem dX4_change_66 : decode cX4_change 66 = .ok (.aload_n 0, 1) := by decide +kernel
theorem dX4_change_67 : decode cX4_change 67 = .ok (.getfield 9, 3) := by decide +kernel
theorem dX4_change_70 : decode cX4_change 70 = .ok (.iload_n 1, 1) := by decide +kernel
theorem dX4_change_71 : decode cX4_change 71 = .ok (.iaload, 1) := by decide +kernel
theorem dX4_change_72 : decode cX4_change 72 = .ok (.aload_n 0, 1) := by decide +kernel
theorem dX4_change_73 : decode cX4_change 73 = .ok (.getfield 9, 3) := by decide +kernel
theorem dX4_change_76 : decode cX4_change 76 = .ok (.aload_n 0, 1) := by decide +kernel
theorem dX4_change_77 : decode cX4_change 77 = .ok (.getfield 17, 3) := by decide +kernel
theorem dX4_change_80 : decode cX4_change 80 = .ok (.iaload, 1) := by decide +kernel
theorem dX4_change_81 : decode cX4_change 81 = .ok (.isub, 1) := by decide +kernel
theorem dX4_change_82 : decode cX4_change 82 = .ok (.istore_n 3, 1) := by decide +kernel
theorem dX4_change_83 : decode cX4_change 83 = .ok (.iload_n 2, 1) := by decide +kernel
theorem dX4_change_84 : decode cX4_change 84 = .ok (.iload_n 3, 1) := by decide +kernel
theorem dX4_change_85 : decode cX4_change 85 = .ok (.invokestatic 101, 3) := by decide +kernel
theorem dX4_change_88 : decode cX4_change 88 = .ok (.bipush 40, 2) := by decide +kernel
theorem dX4_change_90 : decode cX4_change 90 = .ok (.idiv, 1) := by decide +kernel
theorem dX4_change_91 : decode cX4_change 91 = .ok (.iadd, 1) := by decide +kernel
theorem dX4_change_92 : decode cX4_change 92 = .ok (.istore_n 2, 1) := by decide +kernel
theorem dX4_change_93 : decode cX4_change 93 = .ok (.aload_n 0, 1) := by decide +kernel
theorem dX4_change_94 : decode cX4_change 94 = .ok (.iload_n 3, 1) := by decide +kernel
theorem dX4_change_95 : decode cX4_change 95 = .ok (.ifCond .le 7, 3) := by decide +kernel
theorem dX4_change_98 : decode cX4_change 98 = .ok (.iconst 1, 1) := by decide +kernel
theorem dX4_change_99 : decode cX4_change 99 = .ok (.goto 4, 3) := by decide +kernel
theorem dX4_change_102 : decode cX4_change 102 = .ok (.iconst 0, 1) := by decide +kernel
theorem dX4_change_103 : decode cX4_change 103 = .ok (.putfield 20, 3) := by decide +kernel
theorem dX4_change_106 : decode cX4_change 106 = .ok (.aload_n 0, 1) := by decide +kernel
theorem dX4_change_107 : decode cX4_change 107 = .ok (.iload_n 1, 1) := by decide +kernel
theorem dX4_change_108 : decode cX4_change 108 = .ok (.putfield 17, 3) := by decide +kernel
theorem dX4_change_111 : decode cX4_change 111 = .ok (.aload_n 0, 1) := by decide +kernel
theorem dX4_change_112 : decode cX4_change 112 = .ok (.iload_n 2, 1) := by decide +kernel
theorem dX4_change_113 : decode cX4_change 113 = .ok (.putfield 96, 3) := by decide +kernel
theorem dX4_change_116 : decode cX4_change 116 = .ok (.iload_n 2, 1) := by decide +kernel
theorem dX4_change_117 : decode cX4_change 117 = .ok (.ireturn, 1) := by decide +kernel
set_option maxRecDepth 20000 in
theorem ggX4_grade_X4_isGrade : GoodIn wsX4_grade wsX4_isGrade := goodIn_r _ [8, 9, 10, 11, 12, 13, 14, 15, 16, 17, 18, 19, 20, 21, 22] (by decide +kernel) (by decide +kernel)
set_option maxRecDepth 20000 in
theorem gX4_grade_X4_isGrade : GoodIn wsX4_grade (wsV RX4 86 RX4 yX4_isGrade wsX4_isGrade) := goodIn_app (goodIn_of _ (by decide +kernel)) ggX4_grade_X4_isGrade
theorem dX4_grade_0 : decode cX4_grade 0 = .ok (.aload_n 0, 1) := by decide +kernel
theorem dX4_grade_1 : decode cX4_grade 1 = .ok (.aload_n 0, 1) := by decide +kernel
theorem dX4_grade_2 : decode cX4_grade 2 = .ok (.getfield 17, 3) := by decide +kernel
theorem dX4_grade_5 : decode cX4_grade 5 = .ok (.invokevirtual 86, 3) := by decide +kernel
theorem dX4_grade_8 : decode cX4_grade 8 = .ok (.ifCond .ne 13, 3) := by decide +kernel
theorem dX4_grade_11 : decode cX4_grade 11 = .ok (.new 107, 3) := by decide +kernel
theorem dX4_grade_14 : decode cX4_grade 14 = .ok (.dup, 1) := by decide +kernel
theorem dX4_grade_15 : decode cX4_grade 15 = .ok (.ldc 109, 2) := by decide +kernel
theorem dX4_grade_17 : decode cX4_grade 17 = .ok (.invokespecial 111, 3) := by decide +kernel
theorem dX4_grade_20 : decode cX4_grade 20 = .ok (.athrow, 1) := by decide +kernel
theorem dX4_grade_21 : decode cX4_grade 21 = .ok (.aload_n 0, 1) := by decide +kernel
theorem dX4_grade_22 : decode cX4_grade 22 = .ok (.getfield 17, 3) := by decide +kernel
theorem dX4_grade_25 : decode cX4_grade 25 = .ok (.ireturn, 1) := by decide +kernel
theorem dX4_changing_0 : decode cX4_changing 0 = .ok (.aload_n 0, 1) := by decide +kernel
theorem dX4_changing_1 : decode cX4_changing 1 = .ok (.getfield 96, 3) := by decide +kernel
theorem dX4_changing_4 : decode cX4_changing 4 = .ok (.ireturn, 1) := by decide +kernel
set_option maxRecDepth 20000 in
theorem ggX4_next_X4_isGrade : GoodIn wsX4_next wsX4_isGrade := goodIn_r _ [10, 11, 25, 26, 27, 28, 29, 30, 31, 32, 33, 34, 35, 36, 37] (by decide +kernel) (by decide +kernel)
set_option maxRecDepth 20000 in
theorem gX4_next_X4_isGrade : GoodIn wsX4_next (wsV RX4 86 RX4 yX4_isGrade wsX4_isGrade) := goodIn_app (goodIn_of _ (by decide +kernel)) ggX4_next_X4_isGrade
set_option maxRecDepth 20000 in
theorem ggX4_next_X4_nearestWaiting : GoodIn wsX4_next wsX4_nearestWaiting := goodIn_r _ [15, 11, 4, 16, 17, 18, 19, 20, 21, 22, 23, 24, 25, 26, 27, 28, 29, 30, 31, 32, 33, 34, 35, 36, 37, 38, 39, 40, 41, 42] (by decide +kernel) (by decide +kernel)
set_option maxRecDepth 20000 in
theorem gX4_next_X4_nearestWaiting : GoodIn wsX4_next (wsV RX4 112 RX4 yX4_nearestWaiting wsX4_nearestWaiting) := goodIn_app (goodIn_of _ (by decide +kernel)) ggX4_next_X4_nearestWaiting
theorem dX4_next_0 : decode cX4_next 0 = .ok (.aload_n 0, 1) := by decide +kernel
theorem dX4_next_1 : decode cX4_next 1 = .ok (.aload_n 0, 1) := by decide +kernel
theorem dX4_next_2 : decode cX4_next 2 = .ok (.getfield 17, 3) := by decide +kernel
theorem dX4_next_5 : decode cX4_next 5 = .ok (.invokevirtual 86, 3) := by decide +kernel
theorem dX4_next_8 : decode cX4_next 8 = .ok (.ifCond .eq 55, 3) := by decide +kernel
theorem dX4_next_11 : decode cX4_next 11 = .ok (.aload_n 0, 1) := by decide +kernel
theorem dX4_next_12 : decode cX4_next 12 = .ok (.aload_n 0, 1) := by decide +kernel
theorem dX4_next_13 : decode cX4_next 13 = .ok (.getfield 9, 3) := by decide +kernel
theorem dX4_next_16 : decode cX4_next 16 = .ok (.aload_n 0, 1) := by decide +kernel
theorem dX4_next_17 : decode cX4_next 17 = .ok (.getfield 17, 3) := by decide +kernel
theorem dX4_next_20 : decode cX4_next 20 = .ok (.iaload, 1) := by decide +kernel
theorem dX4_next_21 : decode cX4_next 21 = .ok (.aload_n 0, 1) := by decide +kernel
theorem dX4_next_22 : decode cX4_next 22 = .ok (.getfield 20, 3) := by decide +kernel
theorem dX4_next_25 : decode cX4_next 25 = .ok (.invokevirtual 112, 3) := by decide +kernel
theorem dX4_next_28 : decode cX4_next 28 = .ok (.istore_n 1, 1) := by decide +kernel
theorem dX4_next_29 : decode cX4_next 29 = .ok (.iload_n 1, 1) := by decide +kernel
theorem dX4_next_30 : decode cX4_next 30 = .ok (.iconst (-1), 1) := by decide +kernel
theorem dX4_next_31 : decode cX4_next 31 = .ok (.if_icmp .ne 39, 3) := by decide +kernel
theorem dX4_next_34 : decode cX4_next 34 = .ok (.aload_n 0, 1) := by decide +kernel
theorem dX4_next_35 : decode cX4_next 35 = .ok (.aload_n 0, 1) := by decide +kernel
theorem dX4_next_36 : decode cX4_next 36 = .ok (.getfield 9, 3) := by decide +kernel
theorem dX4_next_39 : decode cX4_next 39 = .ok (.aload_n 0, 1) := by decide +kernel
theorem dX4_next_40 : decode cX4_next 40 = .ok (.getfield 17, 3) := by decide +kernel
theorem dX4_next_43 : decode cX4_next 43 = .ok (.iaload, 1) := by decide +kernel
theorem dX4_next_44 : decode cX4_next 44 = .ok (.aload_n 0, 1) := by decide +kernel
theorem dX4_next_45 : decode cX4_next 45 = .ok (.getfield 20, 3) := by decide +kernel
theorem dX4_next_48 : decode cX4_next 48 = .ok (.ifCond .ne 7, 3) := by decide +kernel
theorem dX4_next_51 : decode cX4_next 51 = .ok (.iconst 1, 1) := by decide +kernel
theorem dX4_next_52 : decode cX4_next 52 = .ok (.goto 4, 3) := by decide +kernel
theorem dX4_next_55 : decode cX4_next 55 = .ok (.iconst 0, 1) := by decide +kernel
theorem dX4_next_56 : decode cX4_next 56 = .ok (.invokevirtual 112, 3) := by decide +kernel
theorem dX4_next_59 : decode cX4_next 59 = .ok (.istore_n 1, 1) := by decide +kernel
theorem dX4_next_60 : decode cX4_next 60 = .ok (.goto 10, 3) := by decide +kernel
theorem dX4_next_63 : decode cX4_next 63 = .ok (.aload_n 0, 1) := by decide +kernel
theorem dX4_next_64 : decode cX4_next 64 = .ok (.iconst 0, 1) := by decide +kernel
theorem dX4_next_65 : decode cX4_next 65 = .ok (.iconst 1, 1) := by decide +kernel
theorem dX4_next_66 : decode cX4_next 66 = .ok (.invokevirtual 112, 3) := by decide +kernel
theorem dX4_next_69 : decode cX4_next 69 = .ok (.istore_n 1, 1) := by decide +kernel
theorem dX4_next_70 : decode cX4_next 70 = .ok (.iload_n 1, 1) := by decide +kernel
theorem dX4_next_71 : decode cX4_next 71 = .ok (.iconst (-1), 1) := by decide +kernel
theorem dX4_next_72 : decode cX4_next 72 = .ok (.if_icmp .ne 13, 3) := by decide +kernel
theorem dX4_next_75 : decode cX4_next 75 = .ok (.new 107, 3) := by decide +kernel
theorem dX4_next_78 : decode cX4_next 78 = .ok (.dup, 1) := by decide +kernel
theorem dX4_next_79 : decode cX4_next 79 = .ok (.ldc 116, 2) := by decide +kernel
theorem dX4_next_81 : decode cX4_next 81 = .ok (.invokespecial 111, 3) := by decide +kernel
theorem dX4_next_84 : decode cX4_next 84 = .ok (.athrow, 1) := by decide +kernel
theorem dX4_next_85 : decode cX4_next 85 = .ok (.iload_n 1, 1) := by decide +kernel
theorem dX4_next_86 : decode cX4_next 86 = .ok (.ireturn, 1) := by decide +kernel
set_option maxRecDepth 20000 in
theorem ggX4_mass_X4_isGrade : GoodIn wsX4_mass wsX4_isGrade := goodIn_r _ [7, 8, 15, 16, 17, 18, 19, 20, 21, 22, 23, 24, 25, 26, 27] (by decide +kernel) (by decide +kernel)
set_option maxRecDepth 20000 in
theorem gX4_mass_X4_isGrade : GoodIn wsX4_mass (wsV RX4 86 RX4 yX4_isGrade wsX4_isGrade) := goodIn_app (goodIn_of _ (by decide +kernel)) ggX4_mass_X4_isGrade
set_option maxRecDepth 20000 in
theorem ggX4_mass_X4_massOfAnHour : GoodIn wsX4_mass wsX4_massOfAnHour := goodIn_r _ [12, 13, 14, 3, 4, 5, 6, 7, 8, 15, 16, 17, 18, 19, 20, 21, 22, 23, 24, 25, 26, 27] (by decide +kernel) (by decide +kernel)
set_option maxRecDepth 20000 in
theorem gX4_mass_X4_massOfAnHour : GoodIn wsX4_mass (wsV RX4 118 RX4 yX4_massOfAnHour wsX4_massOfAnHour) := goodIn_app (goodIn_of _ (by decide +kernel)) ggX4_mass_X4_massOfAnHour
theorem dX4_mass_0 : decode cX4_mass 0 = .ok (.aload_n 0, 1) := by decide +kernel
theorem dX4_mass_1 : decode cX4_mass 1 = .ok (.iload_n 1, 1) := by decide +kernel
theorem dX4_mass_2 : decode cX4_mass 2 = .ok (.invokevirtual 86, 3) := by decide +kernel
theorem dX4_mass_5 : decode cX4_mass 5 = .ok (.ifCond .ne 13, 3) := by decide +kernel
theorem dX4_mass_8 : decode cX4_mass 8 = .ok (.new 89, 3) := by decide +kernel
theorem dX4_mass_11 : decode cX4_mass 11 = .ok (.dup, 1) := by decide +kernel
theorem dX4_mass_12 : decode cX4_mass 12 = .ok (.ldc 91, 2) := by decide +kernel
theorem dX4_mass_14 : decode cX4_mass 14 = .ok (.invokespecial 93, 3) := by decide +kernel
theorem dX4_mass_17 : decode cX4_mass 17 = .ok (.athrow, 1) := by decide +kernel
theorem dX4_mass_18 : decode cX4_mass 18 = .ok (.aload_n 0, 1) := by decide +kernel
theorem dX4_mass_19 : decode cX4_mass 19 = .ok (.iload_n 1, 1) := by decide +kernel
theorem dX4_mass_20 : decode cX4_mass 20 = .ok (.invokevirtual 118, 3) := by decide +kernel
theorem dX4_mass_23 : decode cX4_mass 23 = .ok (.ireturn, 1) := by decide +kernel
set_option maxRecDepth 20000 in
theorem ggX4_order_X4_isGrade : GoodIn wsX4_order wsX4_isGrade := goodIn_r _ [15, 16, 35, 36, 37, 38, 39, 40, 41, 42, 43, 44, 45, 46, 47] (by decide +kernel) (by decide +kernel)
set_option maxRecDepth 20000 in
theorem gX4_order_X4_isGrade : GoodIn wsX4_order (wsV RX4 86 RX4 yX4_isGrade wsX4_isGrade) := goodIn_app (goodIn_of _ (by decide +kernel)) ggX4_order_X4_isGrade
set_option maxRecDepth 20000 in
theorem ggX4_order_X4_isWithin : GoodIn wsX4_order wsX4_isWithin := goodIn_r _ [19] (by decide +kernel) (by decide +kernel)
set_option maxRecDepth 20000 in
theorem gX4_order_X4_isWithin : GoodIn wsX4_order (va_wsS RX4 55 yX4_isWithin wsX4_isWithin) := goodIn_app (goodIn_of _ (by decide +kernel)) ggX4_order_X4_isWithin
set_option maxRecDepth 20000 in
theorem ggX4_order_X3_isFull : GoodIn wsX4_order wsX3_isFull := goodIn_r _ [24, 25, 48, 49, 50, 51, 52] (by decide +kernel) (by decide +kernel)
set_option maxRecDepth 20000 in
theorem gX4_order_X3_isFull : GoodIn wsX4_order (wsV RX4 128 RX3 yX3_isFull wsX3_isFull) := goodIn_app (goodIn_of _ (by decide +kernel)) ggX4_order_X3_isFull
set_option maxRecDepth 20000 in
theorem ggX4_order_X3_write : GoodIn wsX4_order wsX3_write := goodIn_r _ [29, 25, 30, 31, 32, 33, 34, 21, 22, 23, 24, 48, 49, 50, 51, 52] (by decide +kernel) (by decide +kernel)
set_option maxRecDepth 20000 in
theorem gX4_order_X3_write : GoodIn wsX4_order (wsV RX4 134 RX3 yX3_write wsX3_write) := goodIn_app (goodIn_of _ (by decide +kernel)) ggX4_order_X3_write
theorem dX4_order_0 : decode cX4_order 0 = .ok (.aload_n 0, 1) := by decide +kernel
theorem dX4_order_1 : decode cX4_order 1 = .ok (.iload_n 1, 1) := by decide +kernel
theorem dX4_order_2 : decode cX4_order 2 = .ok (.invokevirtual 86, 3) := by decide +kernel
theorem dX4_order_5 : decode cX4_order 5 = .ok (.ifCond .ne 13, 3) := by decide +kernel
theorem dX4_order_8 : decode cX4_order 8 = .ok (.new 89, 3) := by decide +kernel
theorem dX4_order_11 : decode cX4_order 11 = .ok (.dup, 1) := by decide +kernel
theorem dX4_order_12 : decode cX4_order 12 = .ok (.ldc 91, 2) := by decide +kernel
theorem dX4_order_14 : decode cX4_order 14 = .ok (.invokespecial 93, 3) := by decide +kernel
theorem dX4_order_17 : decode cX4_order 17 = .ok (.athrow, 1) := by decide +kernel
theorem dX4_order_18 : decode cX4_order 18 = .ok (.iload_n 2, 1) := by decide +kernel
theorem dX4_order_19 : decode cX4_order 19 = .ok (.bipush 20, 2) := by decide +kernel
theorem dX4_order_21 : decode cX4_order 21 = .ok (.sipush 400, 3) := by decide +kernel
theorem dX4_order_24 : decode cX4_order 24 = .ok (.invokestatic 55, 3) := by decide +kernel
theorem dX4_order_27 : decode cX4_order 27 = .ok (.ifCond .eq 13, 3) := by decide +kernel
theorem dX4_order_30 : decode cX4_order 30 = .ok (.iload_n 3, 1) := by decide +kernel
theorem dX4_order_31 : decode cX4_order 31 = .ok (.iconst 1, 1) := by decide +kernel
theorem dX4_order_32 : decode cX4_order 32 = .ok (.bipush 50, 2) := by decide +kernel
theorem dX4_order_34 : decode cX4_order 34 = .ok (.invokestatic 55, 3) := by decide +kernel
theorem dX4_order_37 : decode cX4_order 37 = .ok (.ifCond .ne 13, 3) := by decide +kernel
theorem dX4_order_40 : decode cX4_order 40 = .ok (.new 63, 3) := by decide +kernel
theorem dX4_order_43 : decode cX4_order 43 = .ok (.dup, 1) := by decide +kernel
theorem dX4_order_44 : decode cX4_order 44 = .ok (.ldc 121, 2) := by decide +kernel
theorem dX4_order_46 : decode cX4_order 46 = .ok (.invokespecial 67, 3) := by decide +kernel
theorem dX4_order_49 : decode cX4_order 49 = .ok (.athrow, 1) := by decide +kernel
theorem dX4_order_50 : decode cX4_order 50 = .ok (.iload_n 2, 1) := by decide +kernel
theorem dX4_order_51 : decode cX4_order 51 = .ok (.aload_n 0, 1) := by decide +kernel
theorem dX4_order_52 : decode cX4_order 52 = .ok (.getfield 13, 3) := by decide +kernel
theorem dX4_order_55 : decode cX4_order 55 = .ok (.if_icmp .le 13, 3) := by decide +kernel
theorem dX4_order_58 : decode cX4_order 58 = .ok (.new 123, 3) := by decide +kernel
theorem dX4_order_61 : decode cX4_order 61 = .ok (.dup, 1) := by decide +kernel
theorem dX4_order_62 : decode cX4_order 62 = .ok (.ldc 125, 2) := by decide +kernel
theorem dX4_order_64 : decode cX4_order 64 = .ok (.invokespecial 127, 3) := by decide +kernel
theorem dX4_order_67 : decode cX4_order 67 = .ok (.athrow, 1) := by decide +kernel
theorem dX4_order_68 : decode cX4_order 68 = .ok (.aload_n 0, 1) := by decide +kernel
theorem dX4_order_69 : decode cX4_order 69 = .ok (.getfield 27, 3) := by decide +kernel
theorem dX4_order_72 : decode cX4_order 72 = .ok (.invokevirtual 128, 3) := by decide +kernel
theorem dX4_order_75 : decode cX4_order 75 = .ok (.ifCond .eq 13, 3) := by decide +kernel
theorem dX4_order_78 : decode cX4_order 78 = .ok (.new 73, 3) := by decide +kernel
theorem dX4_order_81 : decode cX4_order 81 = .ok (.dup, 1) := by decide +kernel
theorem dX4_order_82 : decode cX4_order 82 = .ok (.ldc 132, 2) := by decide +kernel
theorem dX4_order_84 : decode cX4_order 84 = .ok (.invokespecial 77, 3) := by decide +kernel
theorem dX4_order_87 : decode cX4_order 87 = .ok (.athrow, 1) := by decide +kernel
theorem dX4_order_88 : decode cX4_order 88 = .ok (.aload_n 0, 1) := by decide +kernel
theorem dX4_order_89 : decode cX4_order 89 = .ok (.getfield 27, 3) := by decide +kernel
theorem dX4_order_92 : decode cX4_order 92 = .ok (.iload_n 1, 1) := by decide +kernel
theorem dX4_order_93 : decode cX4_order 93 = .ok (.iload_n 2, 1) := by decide +kernel
theorem dX4_order_94 : decode cX4_order 94 = .ok (.iload_n 3, 1) := by decide +kernel
theorem dX4_order_95 : decode cX4_order 95 = .ok (.invokevirtual 134, 3) := by decide +kernel
theorem dX4_order_98 : decode cX4_order 98 = .ok (.ireturn, 1) := by decide +kernel
set_option maxRecDepth 20000 in
theorem ggX4_cut_X3_has : GoodIn wsX4_cut wsX3_has := goodIn_r _ [9, 10, 24, 25, 26, 27, 28] (by decide +kernel) (by decide +kernel)
set_option maxRecDepth 20000 in
theorem gX4_cut_X3_has : GoodIn wsX4_cut (wsV RX4 138 RX3 yX3_has wsX3_has) := goodIn_app (goodIn_of _ (by decide +kernel)) ggX4_cut_X3_has
theorem dX4_cut_0 : decode cX4_cut 0 = .ok (.aload_n 0, 1) := by decide +kernel
theorem dX4_cut_1 : decode cX4_cut 1 = .ok (.getfield 27, 3) := by decide +kernel
theorem dX4_cut_4 : decode cX4_cut 4 = .ok (.iload_n 1, 1) := by decide +kernel
theorem dX4_cut_5 : decode cX4_cut 5 = .ok (.invokevirtual 138, 3) := by decide +kernel
theorem dX4_cut_8 : decode cX4_cut 8 = .ok (.ifCond .ne 13, 3) := by decide +kernel
theorem dX4_cut_11 : decode cX4_cut 11 = .ok (.new 89, 3) := by decide +kernel
theorem dX4_cut_14 : decode cX4_cut 14 = .ok (.dup, 1) := by decide +kernel
theorem dX4_cut_15 : decode cX4_cut 15 = .ok (.ldc 141, 2) := by decide +kernel
end
section
theorem dX4_cut_17 : decode cX4_cut 17 = .ok (.invokespecial 93, 3) := by decide +kernel
theorem dX4_cut_20 : decode cX4_cut 20 = .ok (.athrow, 1) := by decide +kernel
theorem dX4_cut_21 : decode cX4_cut 21 = .ok (.aload_n 0, 1) := by decide +kernel
theorem dX4_cut_22 : decode cX4_cut 22 = .ok (.getfield 27, 3) := by decide +kernel
theorem dX4_cut_25 : decode cX4_cut 25 = .ok (.getfield 148, 3) := by decide +kernel
theorem dX4_cut_28 : decode cX4_cut 28 = .ok (.iload_n 1, 1) := by decide +kernel
theorem dX4_cut_29 : decode cX4_cut 29 = .ok (.iaload, 1) := by decide +kernel
theorem dX4_cut_30 : decode cX4_cut 30 = .ok (.ireturn, 1) := by decide +kernel
set_option maxRecDepth 20000 in
theorem ggX4_lacks_X3_has : GoodIn wsX4_lacks wsX3_has := goodIn_r _ [9, 10, 24, 25, 26, 27, 28] (by decide +kernel) (by decide +kernel)
set_option maxRecDepth 20000 in
theorem gX4_lacks_X3_has : GoodIn wsX4_lacks (wsV RX4 138 RX3 yX3_has wsX3_has) := goodIn_app (goodIn_of _ (by decide +kernel)) ggX4_lacks_X3_has
theorem dX4_lacks_0 : decode cX4_lacks 0 = .ok (.aload_n 0, 1) := by decide +kernel
theorem dX4_lacks_1 : decode cX4_lacks 1 = .ok (.getfield 27, 3) := by decide +kernel
theorem dX4_lacks_4 : decode cX4_lacks 4 = .ok (.iload_n 1, 1) := by decide +kernel
theorem dX4_lacks_5 : decode cX4_lacks 5 = .ok (.invokevirtual 138, 3) := by decide +kernel
theorem dX4_lacks_8 : decode cX4_lacks 8 = .ok (.ifCond .ne 13, 3) := by decide +kernel
theorem dX4_lacks_11 : decode cX4_lacks 11 = .ok (.new 89, 3) := by decide +kernel
theorem dX4_lacks_14 : decode cX4_lacks 14 = .ok (.dup, 1) := by decide +kernel
theorem dX4_lacks_15 : decode cX4_lacks 15 = .ok (.ldc 141, 2) := by decide +kernel
theorem dX4_lacks_17 : decode cX4_lacks 17 = .ok (.invokespecial 93, 3) := by decide +kernel
theorem dX4_lacks_20 : decode cX4_lacks 20 = .ok (.athrow, 1) := by decide +kernel
theorem dX4_lacks_21 : decode cX4_lacks 21 = .ok (.aload_n 0, 1) := by decide +kernel
theorem dX4_lacks_22 : decode cX4_lacks 22 = .ok (.getfield 27, 3) := by decide +kernel
theorem dX4_lacks_25 : decode cX4_lacks 25 = .ok (.getfield 143, 3) := by decide +kernel
theorem dX4_lacks_28 : decode cX4_lacks 28 = .ok (.iload_n 1, 1) := by decide +kernel
theorem dX4_lacks_29 : decode cX4_lacks 29 = .ok (.iaload, 1) := by decide +kernel
theorem dX4_lacks_30 : decode cX4_lacks 30 = .ok (.ireturn, 1) := by decide +kernel
set_option maxRecDepth 20000 in
theorem ggX4_trim_X4_isGrade : GoodIn wsX4_trim wsX4_isGrade := goodIn_r _ [10, 11, 59, 60, 61, 62, 63, 64, 65, 66, 67, 68, 69, 70, 71] (by decide +kernel) (by decide +kernel)
set_option maxRecDepth 20000 in
theorem gX4_trim_X4_isGrade : GoodIn wsX4_trim (wsV RX4 86 RX4 yX4_isGrade wsX4_isGrade) := goodIn_app (goodIn_of _ (by decide +kernel)) ggX4_trim_X4_isGrade
set_option maxRecDepth 20000 in
theorem ggX4_trim_X1_load : GoodIn wsX4_trim wsX1_load := goodIn_r _ [16, 17, 18, 19, 20, 21, 22, 23, 24, 25, 26, 27, 28, 29, 30, 31, 32, 33, 34, 35, 36, 72, 73, 74, 75, 76, 77, 78, 79, 80, 81, 82, 83, 84] (by decide +kernel) (by decide +kernel)
set_option maxRecDepth 20000 in
theorem gX4_trim_X1_load : GoodIn wsX4_trim (wsV RX4 151 RX1 yX1_load wsX1_load) := goodIn_app (goodIn_of _ (by decide +kernel)) ggX4_trim_X1_load
set_option maxRecDepth 20000 in
theorem ggX4_trim_X1_sumBySearch : GoodIn wsX4_trim wsX1_sumBySearch := goodIn_r _ [40, 41, 42, 43, 44, 45, 46, 47, 48, 15, 49, 30, 24, 17, 18, 19, 20, 28, 26, 50, 51, 52, 53, 54, 55, 56, 57, 58, 72, 73, 74, 75, 76, 77, 78, 79] (by decide +kernel) (by decide +kernel)
set_option maxRecDepth 20000 in
theorem gX4_trim_X1_sumBySearch : GoodIn wsX4_trim (wsV RX4 155 RX1 yX1_sumBySearch wsX1_sumBySearch) := goodIn_app (goodIn_of _ (by decide +kernel)) ggX4_trim_X1_sumBySearch
theorem dX4_trim_0 : decode cX4_trim 0 = .ok (.aload_n 0, 1) := by decide +kernel
theorem dX4_trim_1 : decode cX4_trim 1 = .ok (.iload_n 1, 1) := by decide +kernel
theorem dX4_trim_2 : decode cX4_trim 2 = .ok (.invokevirtual 86, 3) := by decide +kernel
theorem dX4_trim_5 : decode cX4_trim 5 = .ok (.ifCond .ne 13, 3) := by decide +kernel
theorem dX4_trim_8 : decode cX4_trim 8 = .ok (.new 89, 3) := by decide +kernel
theorem dX4_trim_11 : decode cX4_trim 11 = .ok (.dup, 1) := by decide +kernel
theorem dX4_trim_12 : decode cX4_trim 12 = .ok (.ldc 91, 2) := by decide +kernel
theorem dX4_trim_14 : decode cX4_trim 14 = .ok (.invokespecial 93, 3) := by decide +kernel
theorem dX4_trim_17 : decode cX4_trim 17 = .ok (.athrow, 1) := by decide +kernel
theorem dX4_trim_18 : decode cX4_trim 18 = .ok (.aload_n 0, 1) := by decide +kernel
theorem dX4_trim_19 : decode cX4_trim 19 = .ok (.getfield 34, 3) := by decide +kernel
theorem dX4_trim_22 : decode cX4_trim 22 = .ok (.aload_n 0, 1) := by decide +kernel
theorem dX4_trim_23 : decode cX4_trim 23 = .ok (.getfield 27, 3) := by decide +kernel
theorem dX4_trim_26 : decode cX4_trim 26 = .ok (.iload_n 1, 1) := by decide +kernel
theorem dX4_trim_27 : decode cX4_trim 27 = .ok (.aload_n 0, 1) := by decide +kernel
theorem dX4_trim_28 : decode cX4_trim 28 = .ok (.getfield 13, 3) := by decide +kernel
theorem dX4_trim_31 : decode cX4_trim 31 = .ok (.invokevirtual 151, 3) := by decide +kernel
theorem dX4_trim_34 : decode cX4_trim 34 = .ok (.aload_n 0, 1) := by decide +kernel
theorem dX4_trim_35 : decode cX4_trim 35 = .ok (.getfield 13, 3) := by decide +kernel
theorem dX4_trim_38 : decode cX4_trim 38 = .ok (.aload_n 0, 1) := by decide +kernel
theorem dX4_trim_39 : decode cX4_trim 39 = .ok (.getfield 34, 3) := by decide +kernel
theorem dX4_trim_42 : decode cX4_trim 42 = .ok (.invokevirtual 155, 3) := by decide +kernel
theorem dX4_trim_45 : decode cX4_trim 45 = .ok (.isub, 1) := by decide +kernel
theorem dX4_trim_46 : decode cX4_trim 46 = .ok (.ireturn, 1) := by decide +kernel
set_option maxRecDepth 20000 in
theorem ggX4_setShare_X4_isWithin : GoodIn wsX4_setShare wsX4_isWithin := goodIn_r _ [7] (by decide +kernel) (by decide +kernel)
set_option maxRecDepth 20000 in
theorem gX4_setShare_X4_isWithin : GoodIn wsX4_setShare (va_wsS RX4 55 yX4_isWithin wsX4_isWithin) := goodIn_app (goodIn_of _ (by decide +kernel)) ggX4_setShare_X4_isWithin
theorem dX4_setShare_0 : decode cX4_setShare 0 = .ok (.iload_n 1, 1) := by decide +kernel
theorem dX4_setShare_1 : decode cX4_setShare 1 = .ok (.iconst 0, 1) := by decide +kernel
theorem dX4_setShare_2 : decode cX4_setShare 2 = .ok (.bipush 50, 2) := by decide +kernel
theorem dX4_setShare_4 : decode cX4_setShare 4 = .ok (.invokestatic 55, 3) := by decide +kernel
theorem dX4_setShare_7 : decode cX4_setShare 7 = .ok (.ifCond .ne 13, 3) := by decide +kernel
theorem dX4_setShare_10 : decode cX4_setShare 10 = .ok (.new 63, 3) := by decide +kernel
theorem dX4_setShare_13 : decode cX4_setShare 13 = .ok (.dup, 1) := by decide +kernel
theorem dX4_setShare_14 : decode cX4_setShare 14 = .ok (.ldc 180, 2) := by decide +kernel
theorem dX4_setShare_16 : decode cX4_setShare 16 = .ok (.invokespecial 67, 3) := by decide +kernel
theorem dX4_setShare_19 : decode cX4_setShare 19 = .ok (.athrow, 1) := by decide +kernel
theorem dX4_setShare_20 : decode cX4_setShare 20 = .ok (.aload_n 0, 1) := by decide +kernel
theorem dX4_setShare_21 : decode cX4_setShare 21 = .ok (.getfield 52, 3) := by decide +kernel
theorem dX4_setShare_24 : decode cX4_setShare 24 = .ok (.istore_n 2, 1) := by decide +kernel
theorem dX4_setShare_25 : decode cX4_setShare 25 = .ok (.aload_n 0, 1) := by decide +kernel
theorem dX4_setShare_26 : decode cX4_setShare 26 = .ok (.iload_n 1, 1) := by decide +kernel
theorem dX4_setShare_27 : decode cX4_setShare 27 = .ok (.putfield 52, 3) := by decide +kernel
theorem dX4_setShare_30 : decode cX4_setShare 30 = .ok (.iload_n 2, 1) := by decide +kernel
theorem dX4_setShare_31 : decode cX4_setShare 31 = .ok (.ireturn, 1) := by decide +kernel
set_option maxRecDepth 20000 in
theorem ggX4_setContract_X4_isWithin : GoodIn wsX4_setContract wsX4_isWithin := goodIn_r _ [10] (by decide +kernel) (by decide +kernel)
set_option maxRecDepth 20000 in
theorem gX4_setContract_X4_isWithin : GoodIn wsX4_setContract (va_wsS RX4 55 yX4_isWithin wsX4_isWithin) := goodIn_app (goodIn_of _ (by decide +kernel)) ggX4_setContract_X4_isWithin
theorem dX4_setContract_0 : decode cX4_setContract 0 = .ok (.iload_n 1, 1) := by decide +kernel
theorem dX4_setContract_1 : decode cX4_setContract 1 = .ok (.iconst 0, 1) := by decide +kernel
theorem dX4_setContract_2 : decode cX4_setContract 2 = .ok (.sipush 9999, 3) := by decide +kernel
theorem dX4_setContract_5 : decode cX4_setContract 5 = .ok (.invokestatic 55, 3) := by decide +kernel
theorem dX4_setContract_8 : decode cX4_setContract 8 = .ok (.ifCond .eq 23, 3) := by decide +kernel
theorem dX4_setContract_11 : decode cX4_setContract 11 = .ok (.iload_n 2, 1) := by decide +kernel
theorem dX4_setContract_12 : decode cX4_setContract 12 = .ok (.iconst 0, 1) := by decide +kernel
theorem dX4_setContract_13 : decode cX4_setContract 13 = .ok (.bipush 99, 2) := by decide +kernel
theorem dX4_setContract_15 : decode cX4_setContract 15 = .ok (.invokestatic 55, 3) := by decide +kernel
theorem dX4_setContract_18 : decode cX4_setContract 18 = .ok (.ifCond .eq 13, 3) := by decide +kernel
theorem dX4_setContract_21 : decode cX4_setContract 21 = .ok (.iload_n 3, 1) := by decide +kernel
theorem dX4_setContract_22 : decode cX4_setContract 22 = .ok (.iconst 0, 1) := by decide +kernel
theorem dX4_setContract_23 : decode cX4_setContract 23 = .ok (.bipush 99, 2) := by decide +kernel
theorem dX4_setContract_25 : decode cX4_setContract 25 = .ok (.invokestatic 55, 3) := by decide +kernel
theorem dX4_setContract_28 : decode cX4_setContract 28 = .ok (.ifCond .ne 13, 3) := by decide +kernel
theorem dX4_setContract_31 : decode cX4_setContract 31 = .ok (.new 63, 3) := by decide +kernel
theorem dX4_setContract_34 : decode cX4_setContract 34 = .ok (.dup, 1) := by decide +kernel
theorem dX4_setContract_35 : decode cX4_setContract 35 = .ok (.ldc 182, 2) := by decide +kernel
theorem dX4_setContract_37 : decode cX4_setContract 37 = .ok (.invokespecial 67, 3) := by decide +kernel
theorem dX4_setContract_40 : decode cX4_setContract 40 = .ok (.athrow, 1) := by decide +kernel
theorem dX4_setContract_41 : decode cX4_setContract 41 = .ok (.aload_n 0, 1) := by decide +kernel
theorem dX4_setContract_42 : decode cX4_setContract 42 = .ok (.getfield 41, 3) := by decide +kernel
theorem dX4_setContract_45 : decode cX4_setContract 45 = .ok (.getfield 184, 3) := by decide +kernel
theorem dX4_setContract_48 : decode cX4_setContract 48 = .ok (.istore 4, 2) := by decide +kernel
theorem dX4_setContract_50 : decode cX4_setContract 50 = .ok (.aload_n 0, 1) := by decide +kernel
theorem dX4_setContract_51 : decode cX4_setContract 51 = .ok (.getfield 41, 3) := by decide +kernel
theorem dX4_setContract_54 : decode cX4_setContract 54 = .ok (.iload_n 1, 1) := by decide +kernel
theorem dX4_setContract_55 : decode cX4_setContract 55 = .ok (.putfield 184, 3) := by decide +kernel
theorem dX4_setContract_58 : decode cX4_setContract 58 = .ok (.aload_n 0, 1) := by decide +kernel
theorem dX4_setContract_59 : decode cX4_setContract 59 = .ok (.getfield 41, 3) := by decide +kernel
theorem dX4_setContract_62 : decode cX4_setContract 62 = .ok (.iload_n 2, 1) := by decide +kernel
theorem dX4_setContract_63 : decode cX4_setContract 63 = .ok (.putfield 187, 3) := by decide +kernel
theorem dX4_setContract_66 : decode cX4_setContract 66 = .ok (.aload_n 0, 1) := by decide +kernel
theorem dX4_setContract_67 : decode cX4_setContract 67 = .ok (.getfield 41, 3) := by decide +kernel
theorem dX4_setContract_70 : decode cX4_setContract 70 = .ok (.iload_n 3, 1) := by decide +kernel
theorem dX4_setContract_71 : decode cX4_setContract 71 = .ok (.putfield 190, 3) := by decide +kernel
theorem dX4_setContract_74 : decode cX4_setContract 74 = .ok (.iload 4, 2) := by decide +kernel
theorem dX4_setContract_76 : decode cX4_setContract 76 = .ok (.ireturn, 1) := by decide +kernel
set_option maxRecDepth 20000 in
theorem ggX4_pass_X4_isWithin : GoodIn wsX4_pass wsX4_isWithin := goodIn_r _ [10] (by decide +kernel) (by decide +kernel)
set_option maxRecDepth 20000 in
theorem gX4_pass_X4_isWithin : GoodIn wsX4_pass (va_wsS RX4 55 yX4_isWithin wsX4_isWithin) := goodIn_app (goodIn_of _ (by decide +kernel)) ggX4_pass_X4_isWithin
set_option maxRecDepth 20000 in
theorem ggX4_pass_X4_passAnHour : GoodIn wsX4_pass wsX4_passAnHour := goodIn_r _ [14, 15, 5, 16, 17, 18, 19, 20, 21, 22, 23, 9, 24, 25, 26, 27, 28, 29, 30, 31, 32, 33, 34, 35, 36, 37, 38, 39, 40, 41, 42, 43, 44, 45, 46, 47, 48, 49, 50, 51, 52, 53, 54, 55, 56, 57, 58, 59, 60, 61, 62, 63, 64, 65, 66, 67, 68, 69, 70, 71, 72, 73, 74, 75, 76, 77, 78, 79, 80, 81, 82, 83, 84, 85, 86, 87, 88, 89, 90, 91, 92, 93, 94, 95, 96, 97, 98, 99, 100, 101, 102, 103, 104, 105, 106, 107, 108, 109, 110, 111, 112, 113, 114, 115, 116, 117, 118, 119, 120, 121, 122, 123, 124, 125, 126, 127, 128, 129, 130, 131, 132, 133, 134, 135, 136, 137, 138, 139, 140, 141, 142, 154, 155, 156, 157, 158, 159, 160, 161, 143, 144, 145, 146, 147, 148, 149, 150, 151, 152, 153, 162, 163, 164, 165, 166, 167, 168, 169] (by decide +kernel) (by decide +kernel)
set_option maxRecDepth 20000 in
theorem gX4_pass_X4_passAnHour : GoodIn wsX4_pass (wsV RX4 200 RX4 yX4_passAnHour wsX4_passAnHour) := goodIn_app (goodIn_of _ (by decide +kernel)) ggX4_pass_X4_passAnHour
theorem dX4_pass_0 : decode cX4_pass 0 = .ok (.iload_n 1, 1) := by decide +kernel
theorem dX4_pass_1 : decode cX4_pass 1 = .ok (.iconst 1, 1) := by decide +kernel
theorem dX4_pass_2 : decode cX4_pass 2 = .ok (.bipush 48, 2) := by decide +kernel
theorem dX4_pass_4 : decode cX4_pass 4 = .ok (.invokestatic 55, 3) := by decide +kernel
theorem dX4_pass_7 : decode cX4_pass 7 = .ok (.ifCond .ne 13, 3) := by decide +kernel
theorem dX4_pass_10 : decode cX4_pass 10 = .ok (.new 63, 3) := by decide +kernel
theorem dX4_pass_13 : decode cX4_pass 13 = .ok (.dup, 1) := by decide +kernel
theorem dX4_pass_14 : decode cX4_pass 14 = .ok (.ldc 193, 2) := by decide +kernel
theorem dX4_pass_16 : decode cX4_pass 16 = .ok (.invokespecial 67, 3) := by decide +kernel
theorem dX4_pass_19 : decode cX4_pass 19 = .ok (.athrow, 1) := by decide +kernel
theorem dX4_pass_20 : decode cX4_pass 20 = .ok (.iload_n 1, 1) := by decide +kernel
theorem dX4_pass_21 : decode cX4_pass 21 = .ok (.sipush 400, 3) := by decide +kernel
theorem dX4_pass_24 : decode cX4_pass 24 = .ok (.aload_n 0, 1) := by decide +kernel
theorem dX4_pass_25 : decode cX4_pass 25 = .ok (.getfield 48, 3) := by decide +kernel
theorem dX4_pass_28 : decode cX4_pass 28 = .ok (.getfield 195, 3) := by decide +kernel
theorem dX4_pass_31 : decode cX4_pass 31 = .ok (.isub, 1) := by decide +kernel
theorem dX4_pass_32 : decode cX4_pass 32 = .ok (.if_icmp .le 13, 3) := by decide +kernel
theorem dX4_pass_35 : decode cX4_pass 35 = .ok (.new 73, 3) := by decide +kernel
theorem dX4_pass_38 : decode cX4_pass 38 = .ok (.dup, 1) := by decide +kernel
theorem dX4_pass_39 : decode cX4_pass 39 = .ok (.ldc 198, 2) := by decide +kernel
theorem dX4_pass_41 : decode cX4_pass 41 = .ok (.invokespecial 77, 3) := by decide +kernel
theorem dX4_pass_44 : decode cX4_pass 44 = .ok (.athrow, 1) := by decide +kernel
theorem dX4_pass_45 : decode cX4_pass 45 = .ok (.iconst 0, 1) := by decide +kernel
theorem dX4_pass_46 : decode cX4_pass 46 = .ok (.istore_n 2, 1) := by decide +kernel
theorem dX4_pass_47 : decode cX4_pass 47 = .ok (.iconst 0, 1) := by decide +kernel
theorem dX4_pass_48 : decode cX4_pass 48 = .ok (.istore_n 3, 1) := by decide +kernel
theorem dX4_pass_49 : decode cX4_pass 49 = .ok (.iload_n 3, 1) := by decide +kernel
theorem dX4_pass_50 : decode cX4_pass 50 = .ok (.iload_n 1, 1) := by decide +kernel
theorem dX4_pass_51 : decode cX4_pass 51 = .ok (.if_icmp .ge 16, 3) := by decide +kernel
theorem dX4_pass_54 : decode cX4_pass 54 = .ok (.iload_n 2, 1) := by decide +kernel
theorem dX4_pass_55 : decode cX4_pass 55 = .ok (.aload_n 0, 1) := by decide +kernel
theorem dX4_pass_56 : decode cX4_pass 56 = .ok (.invokevirtual 200, 3) := by decide +kernel
theorem dX4_pass_59 : decode cX4_pass 59 = .ok (.iadd, 1) := by decide +kernel
theorem dX4_pass_60 : decode cX4_pass 60 = .ok (.istore_n 2, 1) := by decide +kernel
theorem dX4_pass_61 : decode cX4_pass 61 = .ok (.iinc 3 1, 3) := by decide +kernel
theorem dX4_pass_64 : decode cX4_pass 64 = .ok (.goto (-15), 3) := by decide +kernel
theorem dX4_pass_67 : decode cX4_pass 67 = .ok (.iload_n 2, 1) := by decide +kernel
theorem dX4_pass_68 : decode cX4_pass 68 = .ok (.ireturn, 1) := by decide +kernel
theorem dX4_hours_0 : decode cX4_hours 0 = .ok (.aload_n 0, 1) := by decide +kernel
theorem dX4_hours_1 : decode cX4_hours 1 = .ok (.getfield 48, 3) := by decide +kernel
theorem dX4_hours_4 : decode cX4_hours 4 = .ok (.getfield 195, 3) := by decide +kernel
theorem dX4_hours_7 : decode cX4_hours 7 = .ok (.ireturn, 1) := by decide +kernel
theorem dX4_broke_0 : decode cX4_broke 0 = .ok (.aload_n 0, 1) := by decide +kernel
theorem dX4_broke_1 : decode cX4_broke 1 = .ok (.getfield 203, 3) := by decide +kernel
theorem dX4_broke_4 : decode cX4_broke 4 = .ok (.ireturn, 1) := by decide +kernel
set_option maxRecDepth 20000 in
theorem ggX4_brokeByHours_X2_fibreStillThere : GoodIn wsX4_brokeByHours wsX2_fibreStillThere := goodIn_r _ [6, 7, 8, 9, 10, 24, 25, 26, 27, 28, 29, 30, 31, 32, 33, 34] (by decide +kernel) (by decide +kernel)
set_option maxRecDepth 20000 in
theorem gX4_brokeByHours_X2_fibreStillThere : GoodIn wsX4_brokeByHours (wsV RX4 206 RX2 yX2_fibreStillThere wsX2_fibreStillThere) := goodIn_app (goodIn_of _ (by decide +kernel)) ggX4_brokeByHours_X2_fibreStillThere
theorem dX4_brokeByHours_0 : decode cX4_brokeByHours 0 = .ok (.aload_n 0, 1) := by decide +kernel
theorem dX4_brokeByHours_1 : decode cX4_brokeByHours 1 = .ok (.getfield 48, 3) := by decide +kernel
theorem dX4_brokeByHours_4 : decode cX4_brokeByHours 4 = .ok (.invokevirtual 206, 3) := by decide +kernel
theorem dX4_brokeByHours_7 : decode cX4_brokeByHours 7 = .ok (.ireturn, 1) := by decide +kernel
theorem dX4_fresh_0 : decode cX4_fresh 0 = .ok (.aload_n 0, 1) := by decide +kernel
theorem dX4_fresh_1 : decode cX4_fresh 1 = .ok (.getfield 48, 3) := by decide +kernel
theorem dX4_fresh_4 : decode cX4_fresh 4 = .ok (.getfield 209, 3) := by decide +kernel
theorem dX4_fresh_7 : decode cX4_fresh 7 = .ok (.lreturn, 1) := by decide +kernel
theorem dX4_paper_0 : decode cX4_paper 0 = .ok (.aload_n 0, 1) := by decide +kernel
theorem dX4_paper_1 : decode cX4_paper 1 = .ok (.getfield 48, 3) := by decide +kernel
theorem dX4_paper_4 : decode cX4_paper 4 = .ok (.getfield 213, 3) := by decide +kernel
theorem dX4_paper_7 : decode cX4_paper 7 = .ok (.lreturn, 1) := by decide +kernel
theorem dX4_lost_0 : decode cX4_lost 0 = .ok (.aload_n 0, 1) := by decide +kernel
theorem dX4_lost_1 : decode cX4_lost 1 = .ok (.getfield 48, 3) := by decide +kernel
theorem dX4_lost_4 : decode cX4_lost 4 = .ok (.getfield 216, 3) := by decide +kernel
theorem dX4_lost_7 : decode cX4_lost 7 = .ok (.lreturn, 1) := by decide +kernel
set_option maxRecDepth 20000 in
theorem ggX4_made_X2_has : GoodIn wsX4_made wsX2_has := goodIn_r _ [9, 10, 24, 25, 26, 27, 28, 29, 30, 31, 32, 33, 34] (by decide +kernel) (by decide +kernel)
set_option maxRecDepth 20000 in
theorem gX4_made_X2_has : GoodIn wsX4_made (wsV RX4 219 RX2 yX2_has wsX2_has) := goodIn_app (goodIn_of _ (by decide +kernel)) ggX4_made_X2_has
theorem dX4_made_0 : decode cX4_made 0 = .ok (.aload_n 0, 1) := by decide +kernel
theorem dX4_made_1 : decode cX4_made 1 = .ok (.getfield 48, 3) := by decide +kernel
theorem dX4_made_4 : decode cX4_made 4 = .ok (.iload_n 1, 1) := by decide +kernel
theorem dX4_made_5 : decode cX4_made 5 = .ok (.invokevirtual 219, 3) := by decide +kernel
theorem dX4_made_8 : decode cX4_made 8 = .ok (.ifCond .ne 13, 3) := by decide +kernel
theorem dX4_made_11 : decode cX4_made 11 = .ok (.new 89, 3) := by decide +kernel
theorem dX4_made_14 : decode cX4_made 14 = .ok (.dup, 1) := by decide +kernel
theorem dX4_made_15 : decode cX4_made 15 = .ok (.ldc 220, 2) := by decide +kernel
theorem dX4_made_17 : decode cX4_made 17 = .ok (.invokespecial 93, 3) := by decide +kernel
theorem dX4_made_20 : decode cX4_made 20 = .ok (.athrow, 1) := by decide +kernel
theorem dX4_made_21 : decode cX4_made 21 = .ok (.aload_n 0, 1) := by decide +kernel
theorem dX4_made_22 : decode cX4_made 22 = .ok (.getfield 48, 3) := by decide +kernel
theorem dX4_made_25 : decode cX4_made 25 = .ok (.getfield 222, 3) := by decide +kernel
theorem dX4_made_28 : decode cX4_made 28 = .ok (.iload_n 1, 1) := by decide +kernel
theorem dX4_made_29 : decode cX4_made 29 = .ok (.caload, 1) := by decide +kernel
theorem dX4_made_30 : decode cX4_made 30 = .ok (.ireturn, 1) := by decide +kernel
theorem dX4_steamCost_0 : decode cX4_steamCost 0 = .ok (.aload_n 0, 1) := by decide +kernel
theorem dX4_steamCost_1 : decode cX4_steamCost 1 = .ok (.getfield 226, 3) := by decide +kernel
theorem dX4_steamCost_4 : decode cX4_steamCost 4 = .ok (.lreturn, 1) := by decide +kernel
theorem dX4_paperShare_0 : decode cX4_paperShare 0 = .ok (.aload_n 0, 1) := by decide +kernel
theorem dX4_paperShare_1 : decode cX4_paperShare 1 = .ok (.getfield 48, 3) := by decide +kernel
theorem dX4_paperShare_4 : decode cX4_paperShare 4 = .ok (.getfield 229, 3) := by decide +kernel
theorem dX4_paperShare_7 : decode cX4_paperShare 7 = .ok (.lconst 0, 1) := by decide +kernel
theorem dX4_paperShare_8 : decode cX4_paperShare 8 = .ok (.lcmp, 1) := by decide +kernel
theorem dX4_paperShare_9 : decode cX4_paperShare 9 = .ok (.ifCond .gt 13, 3) := by decide +kernel
theorem dX4_paperShare_12 : decode cX4_paperShare 12 = .ok (.new 232, 3) := by decide +kernel
theorem dX4_paperShare_15 : decode cX4_paperShare 15 = .ok (.dup, 1) := by decide +kernel
theorem dX4_paperShare_16 : decode cX4_paperShare 16 = .ok (.ldc 234, 2) := by decide +kernel
theorem dX4_paperShare_18 : decode cX4_paperShare 18 = .ok (.invokespecial 236, 3) := by decide +kernel
theorem dX4_paperShare_21 : decode cX4_paperShare 21 = .ok (.athrow, 1) := by decide +kernel
theorem dX4_paperShare_22 : decode cX4_paperShare 22 = .ok (.aload_n 0, 1) := by decide +kernel
theorem dX4_paperShare_23 : decode cX4_paperShare 23 = .ok (.getfield 48, 3) := by decide +kernel
theorem dX4_paperShare_26 : decode cX4_paperShare 26 = .ok (.getfield 213, 3) := by decide +kernel
theorem dX4_paperShare_29 : decode cX4_paperShare 29 = .ok (.l2f, 1) := by decide +kernel
theorem dX4_paperShare_30 : decode cX4_paperShare 30 = .ok (.aload_n 0, 1) := by decide +kernel
theorem dX4_paperShare_31 : decode cX4_paperShare 31 = .ok (.getfield 48, 3) := by decide +kernel
theorem dX4_paperShare_34 : decode cX4_paperShare 34 = .ok (.getfield 229, 3) := by decide +kernel
theorem dX4_paperShare_37 : decode cX4_paperShare 37 = .ok (.l2f, 1) := by decide +kernel
theorem dX4_paperShare_38 : decode cX4_paperShare 38 = .ok (.fdiv, 1) := by decide +kernel
theorem dX4_paperShare_39 : decode cX4_paperShare 39 = .ok (.freturn, 1) := by decide +kernel
theorem dX4_meanTrim_0 : decode cX4_meanTrim 0 = .ok (.aload_n 0, 1) := by decide +kernel
theorem dX4_meanTrim_1 : decode cX4_meanTrim 1 = .ok (.getfield 48, 3) := by decide +kernel
theorem dX4_meanTrim_4 : decode cX4_meanTrim 4 = .ok (.getfield 237, 3) := by decide +kernel
theorem dX4_meanTrim_7 : decode cX4_meanTrim 7 = .ok (.ifCond .gt 13, 3) := by decide +kernel
theorem dX4_meanTrim_10 : decode cX4_meanTrim 10 = .ok (.new 232, 3) := by decide +kernel
theorem dX4_meanTrim_13 : decode cX4_meanTrim 13 = .ok (.dup, 1) := by decide +kernel
theorem dX4_meanTrim_14 : decode cX4_meanTrim 14 = .ok (.ldc 240, 2) := by decide +kernel
theorem dX4_meanTrim_16 : decode cX4_meanTrim 16 = .ok (.invokespecial 236, 3) := by decide +kernel
theorem dX4_meanTrim_19 : decode cX4_meanTrim 19 = .ok (.athrow, 1) := by decide +kernel
theorem dX4_meanTrim_20 : decode cX4_meanTrim 20 = .ok (.aload_n 0, 1) := by decide +kernel
theorem dX4_meanTrim_21 : decode cX4_meanTrim 21 = .ok (.getfield 48, 3) := by decide +kernel
theorem dX4_meanTrim_24 : decode cX4_meanTrim 24 = .ok (.getfield 242, 3) := by decide +kernel
theorem dX4_meanTrim_27 : decode cX4_meanTrim 27 = .ok (.l2d, 1) := by decide +kernel
theorem dX4_meanTrim_28 : decode cX4_meanTrim 28 = .ok (.aload_n 0, 1) := by decide +kernel
theorem dX4_meanTrim_29 : decode cX4_meanTrim 29 = .ok (.getfield 48, 3) := by decide +kernel
theorem dX4_meanTrim_32 : decode cX4_meanTrim 32 = .ok (.getfield 237, 3) := by decide +kernel
theorem dX4_meanTrim_35 : decode cX4_meanTrim 35 = .ok (.i2d, 1) := by decide +kernel
theorem dX4_meanTrim_36 : decode cX4_meanTrim 36 = .ok (.ddiv, 1) := by decide +kernel
theorem dX4_meanTrim_37 : decode cX4_meanTrim 37 = .ok (.dreturn, 1) := by decide +kernel
theorem dX4_isGrade_0 : decode cX4_isGrade 0 = .ok (.iload_n 1, 1) := by decide +kernel
theorem dX4_isGrade_1 : decode cX4_isGrade 1 = .ok (.ifCond .lt 15, 3) := by decide +kernel
theorem dX4_isGrade_4 : decode cX4_isGrade 4 = .ok (.iload_n 1, 1) := by decide +kernel
theorem dX4_isGrade_5 : decode cX4_isGrade 5 = .ok (.aload_n 0, 1) := by decide +kernel
theorem dX4_isGrade_6 : decode cX4_isGrade 6 = .ok (.getfield 70, 3) := by decide +kernel
theorem dX4_isGrade_9 : decode cX4_isGrade 9 = .ok (.if_icmp .ge 7, 3) := by decide +kernel
theorem dX4_isGrade_12 : decode cX4_isGrade 12 = .ok (.iconst 1, 1) := by decide +kernel
theorem dX4_isGrade_13 : decode cX4_isGrade 13 = .ok (.goto 4, 3) := by decide +kernel
theorem dX4_isGrade_16 : decode cX4_isGrade 16 = .ok (.iconst 0, 1) := by decide +kernel
theorem dX4_isGrade_17 : decode cX4_isGrade 17 = .ok (.ireturn, 1) := by decide +kernel
theorem dX4_isWeightTaken_0 : decode cX4_isWeightTaken 0 = .ok (.iconst 0, 1) := by decide +kernel
theorem dX4_isWeightTaken_1 : decode cX4_isWeightTaken 1 = .ok (.istore_n 2, 1) := by decide +kernel
theorem dX4_isWeightTaken_2 : decode cX4_isWeightTaken 2 = .ok (.iload_n 2, 1) := by decide +kernel
theorem dX4_isWeightTaken_3 : decode cX4_isWeightTaken 3 = .ok (.aload_n 0, 1) := by decide +kernel
theorem dX4_isWeightTaken_4 : decode cX4_isWeightTaken 4 = .ok (.getfield 70, 3) := by decide +kernel
theorem dX4_isWeightTaken_7 : decode cX4_isWeightTaken 7 = .ok (.if_icmp .ge 21, 3) := by decide +kernel
theorem dX4_isWeightTaken_10 : decode cX4_isWeightTaken 10 = .ok (.aload_n 0, 1) := by decide +kernel
theorem dX4_isWeightTaken_11 : decode cX4_isWeightTaken 11 = .ok (.getfield 9, 3) := by decide +kernel
theorem dX4_isWeightTaken_14 : decode cX4_isWeightTaken 14 = .ok (.iload_n 2, 1) := by decide +kernel
theorem dX4_isWeightTaken_15 : decode cX4_isWeightTaken 15 = .ok (.iaload, 1) := by decide +kernel
theorem dX4_isWeightTaken_16 : decode cX4_isWeightTaken 16 = .ok (.iload_n 1, 1) := by decide +kernel
theorem dX4_isWeightTaken_17 : decode cX4_isWeightTaken 17 = .ok (.if_icmp .ne 5, 3) := by decide +kernel
theorem dX4_isWeightTaken_20 : decode cX4_isWeightTaken 20 = .ok (.iconst 1, 1) := by decide +kernel
theorem dX4_isWeightTaken_21 : decode cX4_isWeightTaken 21 = .ok (.ireturn, 1) := by decide +kernel
theorem dX4_isWeightTaken_22 : decode cX4_isWeightTaken 22 = .ok (.iinc 2 1, 3) := by decide +kernel
theorem dX4_isWeightTaken_25 : decode cX4_isWeightTaken 25 = .ok (.goto (-23), 3) := by decide +kernel
theorem dX4_isWeightTaken_28 : decode cX4_isWeightTaken 28 = .ok (.iconst 0, 1) := by decide +kernel
theorem dX4_isWeightTaken_29 : decode cX4_isWeightTaken 29 = .ok (.ireturn, 1) := by decide +kernel
set_option maxRecDepth 20000 in
theorem ggX4_massOfAnHour_X4_isGrade : GoodIn wsX4_massOfAnHour wsX4_isGrade := goodIn_r _ [7, 8, 9, 10, 11, 12, 13, 14, 15, 16, 17, 18, 19, 20, 21] (by decide +kernel) (by decide +kernel)
set_option maxRecDepth 20000 in
theorem gX4_massOfAnHour_X4_isGrade : GoodIn wsX4_massOfAnHour (wsV RX4 86 RX4 yX4_isGrade wsX4_isGrade) := goodIn_app (goodIn_of _ (by decide +kernel)) ggX4_massOfAnHour_X4_isGrade
theorem dX4_massOfAnHour_0 : decode cX4_massOfAnHour 0 = .ok (.aload_n 0, 1) := by decide +kernel
theorem dX4_massOfAnHour_1 : decode cX4_massOfAnHour 1 = .ok (.iload_n 1, 1) := by decide +kernel
theorem dX4_massOfAnHour_2 : decode cX4_massOfAnHour 2 = .ok (.invokevirtual 86, 3) := by decide +kernel
theorem dX4_massOfAnHour_5 : decode cX4_massOfAnHour 5 = .ok (.ifCond .eq 20, 3) := by decide +kernel
theorem dX4_massOfAnHour_8 : decode cX4_massOfAnHour 8 = .ok (.aload_n 0, 1) := by decide +kernel
theorem dX4_massOfAnHour_9 : decode cX4_massOfAnHour 9 = .ok (.getfield 9, 3) := by decide +kernel
theorem dX4_massOfAnHour_12 : decode cX4_massOfAnHour 12 = .ok (.iload_n 1, 1) := by decide +kernel
theorem dX4_massOfAnHour_13 : decode cX4_massOfAnHour 13 = .ok (.iaload, 1) := by decide +kernel
theorem dX4_massOfAnHour_14 : decode cX4_massOfAnHour 14 = .ok (.aload_n 0, 1) := by decide +kernel
theorem dX4_massOfAnHour_15 : decode cX4_massOfAnHour 15 = .ok (.getfield 13, 3) := by decide +kernel
theorem dX4_massOfAnHour_18 : decode cX4_massOfAnHour 18 = .ok (.imul, 1) := by decide +kernel
theorem dX4_massOfAnHour_19 : decode cX4_massOfAnHour 19 = .ok (.bipush 10, 2) := by decide +kernel
theorem dX4_massOfAnHour_21 : decode cX4_massOfAnHour 21 = .ok (.idiv, 1) := by decide +kernel
theorem dX4_massOfAnHour_22 : decode cX4_massOfAnHour 22 = .ok (.goto 4, 3) := by decide +kernel
theorem dX4_massOfAnHour_25 : decode cX4_massOfAnHour 25 = .ok (.iconst 0, 1) := by decide +kernel
theorem dX4_massOfAnHour_26 : decode cX4_massOfAnHour 26 = .ok (.ireturn, 1) := by decide +kernel
set_option maxRecDepth 20000 in
theorem ggX4_nearestWaiting_X3_rollsLacking : GoodIn wsX4_nearestWaiting wsX3_rollsLacking := goodIn_r _ [8, 9, 10, 11, 25, 26, 27, 28, 29] (by decide +kernel) (by decide +kernel)
set_option maxRecDepth 20000 in
theorem gX4_nearestWaiting_X3_rollsLacking : GoodIn wsX4_nearestWaiting (wsV RX4 174 RX3 yX3_rollsLacking wsX3_rollsLacking) := goodIn_app (goodIn_of _ (by decide +kernel)) ggX4_nearestWaiting_X3_rollsLacking
theorem dX4_nearestWaiting_0 : decode cX4_nearestWaiting 0 = .ok (.iconst (-1), 1) := by decide +kernel
theorem dX4_nearestWaiting_1 : decode cX4_nearestWaiting 1 = .ok (.istore_n 3, 1) := by decide +kernel
theorem dX4_nearestWaiting_2 : decode cX4_nearestWaiting 2 = .ok (.iconst 0, 1) := by decide +kernel
theorem dX4_nearestWaiting_3 : decode cX4_nearestWaiting 3 = .ok (.istore 4, 2) := by decide +kernel
theorem dX4_nearestWaiting_5 : decode cX4_nearestWaiting 5 = .ok (.iconst 0, 1) := by decide +kernel
theorem dX4_nearestWaiting_6 : decode cX4_nearestWaiting 6 = .ok (.istore 5, 2) := by decide +kernel
theorem dX4_nearestWaiting_8 : decode cX4_nearestWaiting 8 = .ok (.iload 5, 2) := by decide +kernel
theorem dX4_nearestWaiting_10 : decode cX4_nearestWaiting 10 = .ok (.aload_n 0, 1) := by decide +kernel
theorem dX4_nearestWaiting_11 : decode cX4_nearestWaiting 11 = .ok (.getfield 70, 3) := by decide +kernel
theorem dX4_nearestWaiting_14 : decode cX4_nearestWaiting 14 = .ok (.if_icmp .ge 84, 3) := by decide +kernel
theorem dX4_nearestWaiting_17 : decode cX4_nearestWaiting 17 = .ok (.iload_n 2, 1) := by decide +kernel
theorem dX4_nearestWaiting_18 : decode cX4_nearestWaiting 18 = .ok (.ifCond .eq 15, 3) := by decide +kernel
theorem dX4_nearestWaiting_21 : decode cX4_nearestWaiting 21 = .ok (.aload_n 0, 1) := by decide +kernel
theorem dX4_nearestWaiting_22 : decode cX4_nearestWaiting 22 = .ok (.getfield 9, 3) := by decide +kernel
theorem dX4_nearestWaiting_25 : decode cX4_nearestWaiting 25 = .ok (.iload 5, 2) := by decide +kernel
theorem dX4_nearestWaiting_27 : decode cX4_nearestWaiting 27 = .ok (.iaload, 1) := by decide +kernel
theorem dX4_nearestWaiting_28 : decode cX4_nearestWaiting 28 = .ok (.iload_n 1, 1) := by decide +kernel
theorem dX4_nearestWaiting_29 : decode cX4_nearestWaiting 29 = .ok (.isub, 1) := by decide +kernel
theorem dX4_nearestWaiting_30 : decode cX4_nearestWaiting 30 = .ok (.goto 12, 3) := by decide +kernel
theorem dX4_nearestWaiting_33 : decode cX4_nearestWaiting 33 = .ok (.iload_n 1, 1) := by decide +kernel
theorem dX4_nearestWaiting_34 : decode cX4_nearestWaiting 34 = .ok (.aload_n 0, 1) := by decide +kernel
theorem dX4_nearestWaiting_35 : decode cX4_nearestWaiting 35 = .ok (.getfield 9, 3) := by decide +kernel
theorem dX4_nearestWaiting_38 : decode cX4_nearestWaiting 38 = .ok (.iload 5, 2) := by decide +kernel
theorem dX4_nearestWaiting_40 : decode cX4_nearestWaiting 40 = .ok (.iaload, 1) := by decide +kernel
theorem dX4_nearestWaiting_41 : decode cX4_nearestWaiting 41 = .ok (.isub, 1) := by decide +kernel
theorem dX4_nearestWaiting_42 : decode cX4_nearestWaiting 42 = .ok (.istore 6, 2) := by decide +kernel
theorem dX4_nearestWaiting_44 : decode cX4_nearestWaiting 44 = .ok (.iload 6, 2) := by decide +kernel
theorem dX4_nearestWaiting_46 : decode cX4_nearestWaiting 46 = .ok (.ifCond .le 19, 3) := by decide +kernel
theorem dX4_nearestWaiting_49 : decode cX4_nearestWaiting 49 = .ok (.iload_n 3, 1) := by decide +kernel
theorem dX4_nearestWaiting_50 : decode cX4_nearestWaiting 50 = .ok (.iconst (-1), 1) := by decide +kernel
theorem dX4_nearestWaiting_51 : decode cX4_nearestWaiting 51 = .ok (.if_icmp .eq 10, 3) := by decide +kernel
theorem dX4_nearestWaiting_54 : decode cX4_nearestWaiting 54 = .ok (.iload 6, 2) := by decide +kernel
theorem dX4_nearestWaiting_56 : decode cX4_nearestWaiting 56 = .ok (.iload 4, 2) := by decide +kernel
theorem dX4_nearestWaiting_58 : decode cX4_nearestWaiting 58 = .ok (.if_icmp .ge 7, 3) := by decide +kernel
theorem dX4_nearestWaiting_61 : decode cX4_nearestWaiting 61 = .ok (.iconst 1, 1) := by decide +kernel
theorem dX4_nearestWaiting_62 : decode cX4_nearestWaiting 62 = .ok (.goto 4, 3) := by decide +kernel
theorem dX4_nearestWaiting_65 : decode cX4_nearestWaiting 65 = .ok (.iconst 0, 1) := by decide +kernel
theorem dX4_nearestWaiting_66 : decode cX4_nearestWaiting 66 = .ok (.istore 7, 2) := by decide +kernel
theorem dX4_nearestWaiting_68 : decode cX4_nearestWaiting 68 = .ok (.iload 7, 2) := by decide +kernel
theorem dX4_nearestWaiting_70 : decode cX4_nearestWaiting 70 = .ok (.ifCond .eq 22, 3) := by decide +kernel
theorem dX4_nearestWaiting_73 : decode cX4_nearestWaiting 73 = .ok (.aload_n 0, 1) := by decide +kernel
theorem dX4_nearestWaiting_74 : decode cX4_nearestWaiting 74 = .ok (.getfield 27, 3) := by decide +kernel
theorem dX4_nearestWaiting_77 : decode cX4_nearestWaiting 77 = .ok (.iload 5, 2) := by decide +kernel
theorem dX4_nearestWaiting_79 : decode cX4_nearestWaiting 79 = .ok (.invokevirtual 174, 3) := by decide +kernel
theorem dX4_nearestWaiting_82 : decode cX4_nearestWaiting 82 = .ok (.ifCond .le 10, 3) := by decide +kernel
theorem dX4_nearestWaiting_85 : decode cX4_nearestWaiting 85 = .ok (.iload 5, 2) := by decide +kernel
theorem dX4_nearestWaiting_87 : decode cX4_nearestWaiting 87 = .ok (.istore_n 3, 1) := by decide +kernel
theorem dX4_nearestWaiting_88 : decode cX4_nearestWaiting 88 = .ok (.iload 6, 2) := by decide +kernel
theorem dX4_nearestWaiting_90 : decode cX4_nearestWaiting 90 = .ok (.istore 4, 2) := by decide +kernel
theorem dX4_nearestWaiting_92 : decode cX4_nearestWaiting 92 = .ok (.iinc 5 1, 3) := by decide +kernel
theorem dX4_nearestWaiting_95 : decode cX4_nearestWaiting 95 = .ok (.goto (-87), 3) := by decide +kernel
theorem dX4_nearestWaiting_98 : decode cX4_nearestWaiting 98 = .ok (.iload_n 3, 1) := by decide +kernel
theorem dX4_nearestWaiting_99 : decode cX4_nearestWaiting 99 = .ok (.ireturn, 1) := by decide +kernel
set_option maxRecDepth 20000 in
theorem ggX4_passAnHour_X4_isGrade : GoodIn wsX4_passAnHour wsX4_isGrade := goodIn_r _ [12, 13, 118, 119, 120, 121, 122, 123, 124, 125, 126, 127, 128, 129, 130] (by decide +kernel) (by decide +kernel)
set_option maxRecDepth 20000 in
theorem gX4_passAnHour_X4_isGrade : GoodIn wsX4_passAnHour (wsV RX4 86 RX4 yX4_isGrade wsX4_isGrade) := goodIn_app (goodIn_of _ (by decide +kernel)) ggX4_passAnHour_X4_isGrade
set_option maxRecDepth 20000 in
theorem ggX4_passAnHour_X2_writeNothing : GoodIn wsX4_passAnHour wsX2_writeNothing := goodIn_r _ [18, 19, 20, 21, 17, 22, 23, 24, 25, 26, 27, 28, 29, 30, 139, 140, 141, 142, 143, 144, 145, 146, 147, 148, 149] (by decide +kernel) (by decide +kernel)
set_option maxRecDepth 20000 in
theorem gX4_passAnHour_X2_writeNothing : GoodIn wsX4_passAnHour (wsV RX4 245 RX2 yX2_writeNothing wsX2_writeNothing) := goodIn_app (goodIn_of _ (by decide +kernel)) ggX4_passAnHour_X2_writeNothing
set_option maxRecDepth 20000 in
theorem ggX4_passAnHour_X4_massOfAnHour : GoodIn wsX4_passAnHour wsX4_massOfAnHour := goodIn_r _ [34, 35, 6, 8, 9, 10, 11, 12, 13, 118, 119, 120, 121, 122, 123, 124, 125, 126, 127, 128, 129, 130] (by decide +kernel) (by decide +kernel)
set_option maxRecDepth 20000 in
theorem gX4_passAnHour_X4_massOfAnHour : GoodIn wsX4_passAnHour (wsV RX4 118 RX4 yX4_massOfAnHour wsX4_massOfAnHour) := goodIn_app (goodIn_of _ (by decide +kernel)) ggX4_passAnHour_X4_massOfAnHour
set_option maxRecDepth 20000 in
theorem ggX4_passAnHour_X4_make : GoodIn wsX4_passAnHour wsX4_make := goodIn_r _ [39, 40, 41, 42, 43, 44, 45, 2, 46, 47, 48, 49, 20, 21, 17, 22, 23, 24, 25, 26, 27, 28, 29, 30, 50, 51, 52, 53, 54, 55, 56, 57, 58, 118, 119, 120, 121, 122, 123, 124, 125, 126, 127, 128, 129, 130, 139, 140, 141, 142, 143, 144, 145, 146, 147, 148, 149, 150, 151, 152] (by decide +kernel) (by decide +kernel)
set_option maxRecDepth 20000 in
theorem gX4_passAnHour_X4_make : GoodIn wsX4_passAnHour (wsV RX4 248 RX4 yX4_make wsX4_make) := goodIn_app (goodIn_of _ (by decide +kernel)) ggX4_passAnHour_X4_make
set_option maxRecDepth 20000 in
theorem ggX4_passAnHour_X1_load : GoodIn wsX4_passAnHour wsX1_load := goodIn_r _ [63, 64, 43, 44, 45, 65, 66, 67, 68, 69, 70, 71, 72, 73, 74, 75, 76, 77, 78, 79, 80, 131, 132, 133, 134, 135, 136, 137, 138, 153, 154, 155, 156, 157] (by decide +kernel) (by decide +kernel)
set_option maxRecDepth 20000 in
theorem gX4_passAnHour_X1_load : GoodIn wsX4_passAnHour (wsV RX4 151 RX1 yX1_load wsX1_load) := goodIn_app (goodIn_of _ (by decide +kernel)) ggX4_passAnHour_X1_load
set_option maxRecDepth 20000 in
theorem ggX4_passAnHour_X1_sumBySearch : GoodIn wsX4_passAnHour wsX1_sumBySearch := goodIn_r _ [84, 85, 86, 87, 88, 89, 90, 91, 92, 62, 93, 74, 68, 64, 43, 44, 45, 72, 70, 94, 95, 96, 97, 98, 99, 100, 101, 102, 131, 132, 133, 134, 135, 136, 137, 138] (by decide +kernel) (by decide +kernel)
set_option maxRecDepth 20000 in
theorem gX4_passAnHour_X1_sumBySearch : GoodIn wsX4_passAnHour (wsV RX4 155 RX1 yX1_sumBySearch wsX1_sumBySearch) := goodIn_app (goodIn_of _ (by decide +kernel)) ggX4_passAnHour_X1_sumBySearch
set_option maxRecDepth 20000 in
theorem ggX4_passAnHour_X4_quotient : GoodIn wsX4_passAnHour wsX4_quotient := goodIn_r _ [105] (by decide +kernel) (by decide +kernel)
set_option maxRecDepth 20000 in
theorem gX4_passAnHour_X4_quotient : GoodIn wsX4_passAnHour (va_wsS RX4 252 yX4_quotient wsX4_quotient) := goodIn_app (goodIn_of _ (by decide +kernel)) ggX4_passAnHour_X4_quotient
set_option maxRecDepth 20000 in
theorem ggX4_passAnHour_X2_writeTrim : GoodIn wsX4_passAnHour wsX2_writeTrim := goodIn_r _ [109, 110, 111, 139, 140, 141, 142, 143, 144, 145, 146, 147, 148, 149] (by decide +kernel) (by decide +kernel)
set_option maxRecDepth 20000 in
theorem gX4_passAnHour_X2_writeTrim : GoodIn wsX4_passAnHour (wsV RX4 255 RX2 yX2_writeTrim wsX2_writeTrim) := goodIn_app (goodIn_of _ (by decide +kernel)) ggX4_passAnHour_X2_writeTrim
set_option maxRecDepth 20000 in
theorem ggX4_passAnHour_X3_takeOff : GoodIn wsX4_passAnHour wsX3_takeOff := goodIn_r _ [115, 80, 116, 117, 153, 154, 155, 156, 157] (by decide +kernel) (by decide +kernel)
set_option maxRecDepth 20000 in
theorem gX4_passAnHour_X3_takeOff : GoodIn wsX4_passAnHour (wsV RX4 259 RX3 yX3_takeOff wsX3_takeOff) := goodIn_app (goodIn_of _ (by decide +kernel)) ggX4_passAnHour_X3_takeOff
theorem dX4_passAnHour_0 : decode cX4_passAnHour 0 = .ok (.aload_n 0, 1) := by decide +kernel
theorem dX4_passAnHour_1 : decode cX4_passAnHour 1 = .ok (.aload_n 0, 1) := by decide +kernel
theorem dX4_passAnHour_2 : decode cX4_passAnHour 2 = .ok (.getfield 17, 3) := by decide +kernel
theorem dX4_passAnHour_5 : decode cX4_passAnHour 5 = .ok (.invokevirtual 86, 3) := by decide +kernel
theorem dX4_passAnHour_8 : decode cX4_passAnHour 8 = .ok (.ifCond .ne 12, 3) := by decide +kernel
theorem dX4_passAnHour_11 : decode cX4_passAnHour 11 = .ok (.aload_n 0, 1) := by decide +kernel
theorem dX4_passAnHour_12 : decode cX4_passAnHour 12 = .ok (.getfield 48, 3) := by decide +kernel
theorem dX4_passAnHour_15 : decode cX4_passAnHour 15 = .ok (.invokevirtual 245, 3) := by decide +kernel
theorem dX4_passAnHour_18 : decode cX4_passAnHour 18 = .ok (.iconst 0, 1) := by decide +kernel
theorem dX4_passAnHour_19 : decode cX4_passAnHour 19 = .ok (.ireturn, 1) := by decide +kernel
theorem dX4_passAnHour_20 : decode cX4_passAnHour 20 = .ok (.aload_n 0, 1) := by decide +kernel
theorem dX4_passAnHour_21 : decode cX4_passAnHour 21 = .ok (.aload_n 0, 1) := by decide +kernel
theorem dX4_passAnHour_22 : decode cX4_passAnHour 22 = .ok (.getfield 17, 3) := by decide +kernel
theorem dX4_passAnHour_25 : decode cX4_passAnHour 25 = .ok (.invokevirtual 118, 3) := by decide +kernel
theorem dX4_passAnHour_28 : decode cX4_passAnHour 28 = .ok (.istore_n 1, 1) := by decide +kernel
theorem dX4_passAnHour_29 : decode cX4_passAnHour 29 = .ok (.aload_n 0, 1) := by decide +kernel
theorem dX4_passAnHour_30 : decode cX4_passAnHour 30 = .ok (.getfield 96, 3) := by decide +kernel
theorem dX4_passAnHour_33 : decode cX4_passAnHour 33 = .ok (.ifCond .le 23, 3) := by decide +kernel
theorem dX4_passAnHour_36 : decode cX4_passAnHour 36 = .ok (.aload_n 0, 1) := by decide +kernel
theorem dX4_passAnHour_37 : decode cX4_passAnHour 37 = .ok (.bipush 99, 2) := by decide +kernel
theorem dX4_passAnHour_39 : decode cX4_passAnHour 39 = .ok (.iload_n 1, 1) := by decide +kernel
theorem dX4_passAnHour_40 : decode cX4_passAnHour 40 = .ok (.iload_n 1, 1) := by decide +kernel
theorem dX4_passAnHour_41 : decode cX4_passAnHour 41 = .ok (.invokevirtual 248, 3) := by decide +kernel
theorem dX4_passAnHour_44 : decode cX4_passAnHour 44 = .ok (.aload_n 0, 1) := by decide +kernel
theorem dX4_passAnHour_45 : decode cX4_passAnHour 45 = .ok (.dup, 1) := by decide +kernel
theorem dX4_passAnHour_46 : decode cX4_passAnHour 46 = .ok (.getfield 96, 3) := by decide +kernel
theorem dX4_passAnHour_49 : decode cX4_passAnHour 49 = .ok (.iconst 1, 1) := by decide +kernel
theorem dX4_passAnHour_50 : decode cX4_passAnHour 50 = .ok (.isub, 1) := by decide +kernel
theorem dX4_passAnHour_51 : decode cX4_passAnHour 51 = .ok (.putfield 96, 3) := by decide +kernel
theorem dX4_passAnHour_54 : decode cX4_passAnHour 54 = .ok (.iconst 0, 1) := by decide +kernel
theorem dX4_passAnHour_55 : decode cX4_passAnHour 55 = .ok (.ireturn, 1) := by decide +kernel
theorem dX4_passAnHour_56 : decode cX4_passAnHour 56 = .ok (.aload_n 0, 1) := by decide +kernel
theorem dX4_passAnHour_57 : decode cX4_passAnHour 57 = .ok (.getfield 34, 3) := by decide +kernel
theorem dX4_passAnHour_60 : decode cX4_passAnHour 60 = .ok (.aload_n 0, 1) := by decide +kernel
theorem dX4_passAnHour_61 : decode cX4_passAnHour 61 = .ok (.getfield 27, 3) := by decide +kernel
theorem dX4_passAnHour_64 : decode cX4_passAnHour 64 = .ok (.aload_n 0, 1) := by decide +kernel
theorem dX4_passAnHour_65 : decode cX4_passAnHour 65 = .ok (.getfield 17, 3) := by decide +kernel
theorem dX4_passAnHour_68 : decode cX4_passAnHour 68 = .ok (.aload_n 0, 1) := by decide +kernel
theorem dX4_passAnHour_69 : decode cX4_passAnHour 69 = .ok (.getfield 13, 3) := by decide +kernel
theorem dX4_passAnHour_72 : decode cX4_passAnHour 72 = .ok (.invokevirtual 151, 3) := by decide +kernel
theorem dX4_passAnHour_75 : decode cX4_passAnHour 75 = .ok (.aload_n 0, 1) := by decide +kernel
theorem dX4_passAnHour_76 : decode cX4_passAnHour 76 = .ok (.getfield 34, 3) := by decide +kernel
theorem dX4_passAnHour_79 : decode cX4_passAnHour 79 = .ok (.invokevirtual 155, 3) := by decide +kernel
theorem dX4_passAnHour_82 : decode cX4_passAnHour 82 = .ok (.istore_n 2, 1) := by decide +kernel
theorem dX4_passAnHour_83 : decode cX4_passAnHour 83 = .ok (.iload_n 2, 1) := by decide +kernel
theorem dX4_passAnHour_84 : decode cX4_passAnHour 84 = .ok (.ifCond .gt 12, 3) := by decide +kernel
theorem dX4_passAnHour_87 : decode cX4_passAnHour 87 = .ok (.aload_n 0, 1) := by decide +kernel
theorem dX4_passAnHour_88 : decode cX4_passAnHour 88 = .ok (.getfield 48, 3) := by decide +kernel
theorem dX4_passAnHour_91 : decode cX4_passAnHour 91 = .ok (.invokevirtual 245, 3) := by decide +kernel
theorem dX4_passAnHour_94 : decode cX4_passAnHour 94 = .ok (.iconst 0, 1) := by decide +kernel
theorem dX4_passAnHour_95 : decode cX4_passAnHour 95 = .ok (.ireturn, 1) := by decide +kernel
theorem dX4_passAnHour_96 : decode cX4_passAnHour 96 = .ok (.aload_n 0, 1) := by decide +kernel
theorem dX4_passAnHour_97 : decode cX4_passAnHour 97 = .ok (.getfield 13, 3) := by decide +kernel
theorem dX4_passAnHour_100 : decode cX4_passAnHour 100 = .ok (.iload_n 2, 1) := by decide +kernel
theorem dX4_passAnHour_101 : decode cX4_passAnHour 101 = .ok (.isub, 1) := by decide +kernel
theorem dX4_passAnHour_102 : decode cX4_passAnHour 102 = .ok (.istore_n 3, 1) := by decide +kernel
theorem dX4_passAnHour_103 : decode cX4_passAnHour 103 = .ok (.aload_n 0, 1) := by decide +kernel
theorem dX4_passAnHour_104 : decode cX4_passAnHour 104 = .ok (.bipush 112, 2) := by decide +kernel
theorem dX4_passAnHour_106 : decode cX4_passAnHour 106 = .ok (.iload_n 1, 1) := by decide +kernel
theorem dX4_passAnHour_107 : decode cX4_passAnHour 107 = .ok (.iload_n 1, 1) := by decide +kernel
theorem dX4_passAnHour_108 : decode cX4_passAnHour 108 = .ok (.iload_n 3, 1) := by decide +kernel
theorem dX4_passAnHour_109 : decode cX4_passAnHour 109 = .ok (.imul, 1) := by decide +kernel
theorem dX4_passAnHour_110 : decode cX4_passAnHour 110 = .ok (.aload_n 0, 1) := by decide +kernel
theorem dX4_passAnHour_111 : decode cX4_passAnHour 111 = .ok (.getfield 13, 3) := by decide +kernel
theorem dX4_passAnHour_114 : decode cX4_passAnHour 114 = .ok (.invokestatic 252, 3) := by decide +kernel
theorem dX4_passAnHour_117 : decode cX4_passAnHour 117 = .ok (.invokevirtual 248, 3) := by decide +kernel
theorem dX4_passAnHour_120 : decode cX4_passAnHour 120 = .ok (.aload_n 0, 1) := by decide +kernel
end
section
theorem dX4_passAnHour_121 : decode cX4_passAnHour 121 = .ok (.getfield 48, 3) := by decide +kernel
theorem dX4_passAnHour_124 : decode cX4_passAnHour 124 = .ok (.iload_n 3, 1) := by decide +kernel
theorem dX4_passAnHour_125 : decode cX4_passAnHour 125 = .ok (.invokevirtual 255, 3) := by decide +kernel
theorem dX4_passAnHour_128 : decode cX4_passAnHour 128 = .ok (.aload_n 0, 1) := by decide +kernel
theorem dX4_passAnHour_129 : decode cX4_passAnHour 129 = .ok (.getfield 27, 3) := by decide +kernel
theorem dX4_passAnHour_132 : decode cX4_passAnHour 132 = .ok (.aload_n 0, 1) := by decide +kernel
theorem dX4_passAnHour_133 : decode cX4_passAnHour 133 = .ok (.getfield 34, 3) := by decide +kernel
theorem dX4_passAnHour_136 : decode cX4_passAnHour 136 = .ok (.getfield 164, 3) := by decide +kernel
theorem dX4_passAnHour_139 : decode cX4_passAnHour 139 = .ok (.invokevirtual 259, 3) := by decide +kernel
theorem dX4_passAnHour_142 : decode cX4_passAnHour 142 = .ok (.ireturn, 1) := by decide +kernel
set_option maxRecDepth 20000 in
theorem ggX4_make_X2_writeMade : GoodIn wsX4_make wsX2_writeMade := goodIn_r _ [15, 16, 17, 18, 19, 20, 21, 22, 23, 46, 47, 48, 49, 50, 51, 52, 53, 54, 55, 56] (by decide +kernel) (by decide +kernel)
set_option maxRecDepth 20000 in
theorem gX4_make_X2_writeMade : GoodIn wsX4_make (wsV RX4 266 RX2 yX2_writeMade wsX2_writeMade) := goodIn_app (goodIn_of _ (by decide +kernel)) ggX4_make_X2_writeMade
set_option maxRecDepth 20000 in
theorem ggX4_make_X0_cost : GoodIn wsX4_make wsX0_cost := goodIn_r _ [28, 29, 30, 4, 5, 6, 31, 32, 57, 58, 59] (by decide +kernel) (by decide +kernel)
set_option maxRecDepth 20000 in
theorem gX4_make_X0_cost : GoodIn wsX4_make (wsV RX4 270 RX0 yX0_cost wsX0_cost) := goodIn_app (goodIn_of _ (by decide +kernel)) ggX4_make_X0_cost
theorem dX4_make_0 : decode cX4_make 0 = .ok (.iload_n 2, 1) := by decide +kernel
theorem dX4_make_1 : decode cX4_make 1 = .ok (.bipush 50, 2) := by decide +kernel
theorem dX4_make_3 : decode cX4_make 3 = .ok (.idiv, 1) := by decide +kernel
theorem dX4_make_4 : decode cX4_make 4 = .ok (.istore 4, 2) := by decide +kernel
theorem dX4_make_6 : decode cX4_make 6 = .ok (.iload_n 2, 1) := by decide +kernel
theorem dX4_make_7 : decode cX4_make 7 = .ok (.iload 4, 2) := by decide +kernel
theorem dX4_make_9 : decode cX4_make 9 = .ok (.iadd, 1) := by decide +kernel
theorem dX4_make_10 : decode cX4_make 10 = .ok (.istore 5, 2) := by decide +kernel
theorem dX4_make_12 : decode cX4_make 12 = .ok (.aload_n 0, 1) := by decide +kernel
theorem dX4_make_13 : decode cX4_make 13 = .ok (.getfield 203, 3) := by decide +kernel
theorem dX4_make_16 : decode cX4_make 16 = .ok (.iload 5, 2) := by decide +kernel
theorem dX4_make_18 : decode cX4_make 18 = .ok (.aload_n 0, 1) := by decide +kernel
theorem dX4_make_19 : decode cX4_make 19 = .ok (.getfield 52, 3) := by decide +kernel
theorem dX4_make_22 : decode cX4_make 22 = .ok (.imul, 1) := by decide +kernel
theorem dX4_make_23 : decode cX4_make 23 = .ok (.bipush 100, 2) := by decide +kernel
theorem dX4_make_25 : decode cX4_make 25 = .ok (.idiv, 1) := by decide +kernel
theorem dX4_make_26 : decode cX4_make 26 = .ok (.invokestatic 263, 3) := by decide +kernel
theorem dX4_make_29 : decode cX4_make 29 = .ok (.istore 6, 2) := by decide +kernel
theorem dX4_make_31 : decode cX4_make 31 = .ok (.aload_n 0, 1) := by decide +kernel
theorem dX4_make_32 : decode cX4_make 32 = .ok (.dup, 1) := by decide +kernel
theorem dX4_make_33 : decode cX4_make 33 = .ok (.getfield 203, 3) := by decide +kernel
theorem dX4_make_36 : decode cX4_make 36 = .ok (.iload_n 3, 1) := by decide +kernel
theorem dX4_make_37 : decode cX4_make 37 = .ok (.iload 6, 2) := by decide +kernel
theorem dX4_make_39 : decode cX4_make 39 = .ok (.isub, 1) := by decide +kernel
theorem dX4_make_40 : decode cX4_make 40 = .ok (.iadd, 1) := by decide +kernel
theorem dX4_make_41 : decode cX4_make 41 = .ok (.putfield 203, 3) := by decide +kernel
theorem dX4_make_44 : decode cX4_make 44 = .ok (.aload_n 0, 1) := by decide +kernel
theorem dX4_make_45 : decode cX4_make 45 = .ok (.getfield 48, 3) := by decide +kernel
theorem dX4_make_48 : decode cX4_make 48 = .ok (.iload_n 1, 1) := by decide +kernel
theorem dX4_make_49 : decode cX4_make 49 = .ok (.iload 5, 2) := by decide +kernel
theorem dX4_make_51 : decode cX4_make 51 = .ok (.iload 6, 2) := by decide +kernel
theorem dX4_make_53 : decode cX4_make 53 = .ok (.isub, 1) := by decide +kernel
theorem dX4_make_54 : decode cX4_make 54 = .ok (.iload_n 2, 1) := by decide +kernel
theorem dX4_make_55 : decode cX4_make 55 = .ok (.iload_n 3, 1) := by decide +kernel
theorem dX4_make_56 : decode cX4_make 56 = .ok (.isub, 1) := by decide +kernel
theorem dX4_make_57 : decode cX4_make 57 = .ok (.iload 4, 2) := by decide +kernel
theorem dX4_make_59 : decode cX4_make 59 = .ok (.invokevirtual 266, 3) := by decide +kernel
theorem dX4_make_62 : decode cX4_make 62 = .ok (.aload_n 0, 1) := by decide +kernel
theorem dX4_make_63 : decode cX4_make 63 = .ok (.getfield 48, 3) := by decide +kernel
theorem dX4_make_66 : decode cX4_make 66 = .ok (.dup, 1) := by decide +kernel
theorem dX4_make_67 : decode cX4_make 67 = .ok (.getfield 229, 3) := by decide +kernel
theorem dX4_make_70 : decode cX4_make 70 = .ok (.iload_n 2, 1) := by decide +kernel
theorem dX4_make_71 : decode cX4_make 71 = .ok (.i2l, 1) := by decide +kernel
theorem dX4_make_72 : decode cX4_make 72 = .ok (.ladd, 1) := by decide +kernel
theorem dX4_make_73 : decode cX4_make 73 = .ok (.putfield 229, 3) := by decide +kernel
theorem dX4_make_76 : decode cX4_make 76 = .ok (.aload_n 0, 1) := by decide +kernel
theorem dX4_make_77 : decode cX4_make 77 = .ok (.dup, 1) := by decide +kernel
theorem dX4_make_78 : decode cX4_make 78 = .ok (.getfield 226, 3) := by decide +kernel
theorem dX4_make_81 : decode cX4_make 81 = .ok (.aload_n 0, 1) := by decide +kernel
theorem dX4_make_82 : decode cX4_make 82 = .ok (.getfield 41, 3) := by decide +kernel
theorem dX4_make_85 : decode cX4_make 85 = .ok (.iload_n 2, 1) := by decide +kernel
theorem dX4_make_86 : decode cX4_make 86 = .ok (.iconst 2, 1) := by decide +kernel
theorem dX4_make_87 : decode cX4_make 87 = .ok (.idiv, 1) := by decide +kernel
theorem dX4_make_88 : decode cX4_make 88 = .ok (.invokevirtual 270, 3) := by decide +kernel
theorem dX4_make_91 : decode cX4_make 91 = .ok (.ladd, 1) := by decide +kernel
theorem dX4_make_92 : decode cX4_make 92 = .ok (.putfield 226, 3) := by decide +kernel
theorem dX4_make_95 : decode cX4_make 95 = .ok (.return_, 1) := by decide +kernel
theorem dX4_isWithin_0 : decode cX4_isWithin 0 = .ok (.iload_n 0, 1) := by decide +kernel
theorem dX4_isWithin_1 : decode cX4_isWithin 1 = .ok (.iload_n 1, 1) := by decide +kernel
theorem dX4_isWithin_2 : decode cX4_isWithin 2 = .ok (.if_icmp .lt 12, 3) := by decide +kernel
theorem dX4_isWithin_5 : decode cX4_isWithin 5 = .ok (.iload_n 0, 1) := by decide +kernel
theorem dX4_isWithin_6 : decode cX4_isWithin 6 = .ok (.iload_n 2, 1) := by decide +kernel
theorem dX4_isWithin_7 : decode cX4_isWithin 7 = .ok (.if_icmp .gt 7, 3) := by decide +kernel
theorem dX4_isWithin_10 : decode cX4_isWithin 10 = .ok (.iconst 1, 1) := by decide +kernel
theorem dX4_isWithin_11 : decode cX4_isWithin 11 = .ok (.goto 4, 3) := by decide +kernel
theorem dX4_isWithin_14 : decode cX4_isWithin 14 = .ok (.iconst 0, 1) := by decide +kernel
theorem dX4_isWithin_15 : decode cX4_isWithin 15 = .ok (.ireturn, 1) := by decide +kernel
theorem dX4_quotient_0 : decode cX4_quotient 0 = .ok (.iload_n 1, 1) := by decide +kernel
theorem dX4_quotient_1 : decode cX4_quotient 1 = .ok (.ifCond .le 9, 3) := by decide +kernel
theorem dX4_quotient_4 : decode cX4_quotient 4 = .ok (.iload_n 0, 1) := by decide +kernel
theorem dX4_quotient_5 : decode cX4_quotient 5 = .ok (.iload_n 1, 1) := by decide +kernel
theorem dX4_quotient_6 : decode cX4_quotient 6 = .ok (.idiv, 1) := by decide +kernel
theorem dX4_quotient_7 : decode cX4_quotient 7 = .ok (.goto 4, 3) := by decide +kernel
theorem dX4_quotient_10 : decode cX4_quotient 10 = .ok (.iconst 0, 1) := by decide +kernel
theorem dX4_quotient_11 : decode cX4_quotient 11 = .ok (.ireturn, 1) := by decide +kernel
theorem dX5_init_0 : decode cX5_init 0 = .ok (.aload_n 0, 1) := by decide +kernel
theorem dX5_init_1 : decode cX5_init 1 = .ok (.invokespecial 1, 3) := by decide +kernel
theorem dX5_init_4 : decode cX5_init 4 = .ok (.aload_n 0, 1) := by decide +kernel
theorem dX5_init_5 : decode cX5_init 5 = .ok (.iconst 3, 1) := by decide +kernel
theorem dX5_init_6 : decode cX5_init 6 = .ok (.newarray .int, 2) := by decide +kernel
theorem dX5_init_8 : decode cX5_init 8 = .ok (.putfield 7, 3) := by decide +kernel
theorem dX5_init_11 : decode cX5_init 11 = .ok (.aload_n 0, 1) := by decide +kernel
theorem dX5_init_12 : decode cX5_init 12 = .ok (.bipush 10, 2) := by decide +kernel
theorem dX5_init_14 : decode cX5_init 14 = .ok (.newarray .int, 2) := by decide +kernel
theorem dX5_init_16 : decode cX5_init 16 = .ok (.putfield 13, 3) := by decide +kernel
theorem dX5_init_19 : decode cX5_init 19 = .ok (.aload_n 0, 1) := by decide +kernel
theorem dX5_init_20 : decode cX5_init 20 = .ok (.bipush 10, 2) := by decide +kernel
theorem dX5_init_22 : decode cX5_init 22 = .ok (.newarray .int, 2) := by decide +kernel
theorem dX5_init_24 : decode cX5_init 24 = .ok (.putfield 16, 3) := by decide +kernel
theorem dX5_init_27 : decode cX5_init 27 = .ok (.aload_n 0, 1) := by decide +kernel
theorem dX5_init_28 : decode cX5_init 28 = .ok (.bipush 10, 2) := by decide +kernel
theorem dX5_init_30 : decode cX5_init 30 = .ok (.newarray .int, 2) := by decide +kernel
theorem dX5_init_32 : decode cX5_init 32 = .ok (.putfield 19, 3) := by decide +kernel
theorem dX5_init_35 : decode cX5_init 35 = .ok (.aload_n 0, 1) := by decide +kernel
theorem dX5_init_36 : decode cX5_init 36 = .ok (.bipush 10, 2) := by decide +kernel
theorem dX5_init_38 : decode cX5_init 38 = .ok (.newarray .int, 2) := by decide +kernel
theorem dX5_init_40 : decode cX5_init 40 = .ok (.putfield 22, 3) := by decide +kernel
theorem dX5_init_43 : decode cX5_init 43 = .ok (.aload_n 0, 1) := by decide +kernel
theorem dX5_init_44 : decode cX5_init 44 = .ok (.sipush 600, 3) := by decide +kernel
theorem dX5_init_47 : decode cX5_init 47 = .ok (.putfield 25, 3) := by decide +kernel
theorem dX5_init_50 : decode cX5_init 50 = .ok (.aload_n 0, 1) := by decide +kernel
theorem dX5_init_51 : decode cX5_init 51 = .ok (.iconst (-1), 1) := by decide +kernel
theorem dX5_init_52 : decode cX5_init 52 = .ok (.putfield 29, 3) := by decide +kernel
theorem dX5_init_55 : decode cX5_init 55 = .ok (.aload_n 0, 1) := by decide +kernel
theorem dX5_init_56 : decode cX5_init 56 = .ok (.iconst 1, 1) := by decide +kernel
theorem dX5_init_57 : decode cX5_init 57 = .ok (.putfield 32, 3) := by decide +kernel
theorem dX5_init_60 : decode cX5_init 60 = .ok (.aload_n 0, 1) := by decide +kernel
theorem dX5_init_61 : decode cX5_init 61 = .ok (.bipush 20, 2) := by decide +kernel
theorem dX5_init_63 : decode cX5_init 63 = .ok (.putfield 36, 3) := by decide +kernel
theorem dX5_init_66 : decode cX5_init 66 = .ok (.aload_n 0, 1) := by decide +kernel
theorem dX5_init_67 : decode cX5_init 67 = .ok (.sipush 2000, 3) := by decide +kernel
theorem dX5_init_70 : decode cX5_init 70 = .ok (.putfield 39, 3) := by decide +kernel
theorem dX5_init_73 : decode cX5_init 73 = .ok (.aload_n 0, 1) := by decide +kernel
theorem dX5_init_74 : decode cX5_init 74 = .ok (.iconst 3, 1) := by decide +kernel
theorem dX5_init_75 : decode cX5_init 75 = .ok (.putfield 42, 3) := by decide +kernel
theorem dX5_init_78 : decode cX5_init 78 = .ok (.aload_n 0, 1) := by decide +kernel
theorem dX5_init_79 : decode cX5_init 79 = .ok (.iconst 5, 1) := by decide +kernel
theorem dX5_init_80 : decode cX5_init 80 = .ok (.putfield 45, 3) := by decide +kernel
theorem dX5_init_83 : decode cX5_init 83 = .ok (.return_, 1) := by decide +kernel
theorem dX5_broke_0 : decode cX5_broke 0 = .ok (.aload_n 0, 1) := by decide +kernel
theorem dX5_broke_1 : decode cX5_broke 1 = .ok (.getfield 48, 3) := by decide +kernel
theorem dX5_broke_4 : decode cX5_broke 4 = .ok (.aload_n 0, 1) := by decide +kernel
theorem dX5_broke_5 : decode cX5_broke 5 = .ok (.getfield 52, 3) := by decide +kernel
theorem dX5_broke_8 : decode cX5_broke 8 = .ok (.lsub, 1) := by decide +kernel
theorem dX5_broke_9 : decode cX5_broke 9 = .ok (.aload_n 0, 1) := by decide +kernel
theorem dX5_broke_10 : decode cX5_broke 10 = .ok (.getfield 55, 3) := by decide +kernel
theorem dX5_broke_13 : decode cX5_broke 13 = .ok (.lsub, 1) := by decide +kernel
theorem dX5_broke_14 : decode cX5_broke 14 = .ok (.l2i, 1) := by decide +kernel
theorem dX5_broke_15 : decode cX5_broke 15 = .ok (.ireturn, 1) := by decide +kernel
set_option maxRecDepth 20000 in
theorem ggX5_cutOf_L_best : GoodIn wsX5_cutOf wsL_best := goodIn_r _ [9, 1, 10, 11, 12, 13] (by decide +kernel) (by decide +kernel)
set_option maxRecDepth 20000 in
theorem gX5_cutOf_L_best_n61 : GoodIn wsX5_cutOf (wsL_best) := ggX5_cutOf_L_best
theorem dX5_cutOf_0 : decode cX5_cutOf 0 = .ok (.bipush 10, 2) := by decide +kernel
theorem dX5_cutOf_2 : decode cX5_cutOf 2 = .ok (.newarray .int, 2) := by decide +kernel
theorem dX5_cutOf_4 : decode cX5_cutOf 4 = .ok (.astore_n 2, 1) := by decide +kernel
theorem dX5_cutOf_5 : decode cX5_cutOf 5 = .ok (.bipush 10, 2) := by decide +kernel
theorem dX5_cutOf_7 : decode cX5_cutOf 7 = .ok (.newarray .int, 2) := by decide +kernel
theorem dX5_cutOf_9 : decode cX5_cutOf 9 = .ok (.astore_n 3, 1) := by decide +kernel
theorem dX5_cutOf_10 : decode cX5_cutOf 10 = .ok (.bipush 10, 2) := by decide +kernel
theorem dX5_cutOf_12 : decode cX5_cutOf 12 = .ok (.newarray .int, 2) := by decide +kernel
theorem dX5_cutOf_14 : decode cX5_cutOf 14 = .ok (.astore 4, 2) := by decide +kernel
theorem dX5_cutOf_16 : decode cX5_cutOf 16 = .ok (.iconst 0, 1) := by decide +kernel
theorem dX5_cutOf_17 : decode cX5_cutOf 17 = .ok (.istore 5, 2) := by decide +kernel
theorem dX5_cutOf_19 : decode cX5_cutOf 19 = .ok (.iconst 0, 1) := by decide +kernel
theorem dX5_cutOf_20 : decode cX5_cutOf 20 = .ok (.istore 6, 2) := by decide +kernel
theorem dX5_cutOf_22 : decode cX5_cutOf 22 = .ok (.iload 6, 2) := by decide +kernel
theorem dX5_cutOf_24 : decode cX5_cutOf 24 = .ok (.aload_n 0, 1) := by decide +kernel
theorem dX5_cutOf_25 : decode cX5_cutOf 25 = .ok (.getfield 58, 3) := by decide +kernel
theorem dX5_cutOf_28 : decode cX5_cutOf 28 = .ok (.if_icmp .ge 62, 3) := by decide +kernel
theorem dX5_cutOf_31 : decode cX5_cutOf 31 = .ok (.aload_n 0, 1) := by decide +kernel
theorem dX5_cutOf_32 : decode cX5_cutOf 32 = .ok (.getfield 13, 3) := by decide +kernel
theorem dX5_cutOf_35 : decode cX5_cutOf 35 = .ok (.iload 6, 2) := by decide +kernel
theorem dX5_cutOf_37 : decode cX5_cutOf 37 = .ok (.iaload, 1) := by decide +kernel
theorem dX5_cutOf_38 : decode cX5_cutOf 38 = .ok (.iload_n 1, 1) := by decide +kernel
theorem dX5_cutOf_39 : decode cX5_cutOf 39 = .ok (.if_icmp .ne 45, 3) := by decide +kernel
theorem dX5_cutOf_42 : decode cX5_cutOf 42 = .ok (.aload_n 0, 1) := by decide +kernel
theorem dX5_cutOf_43 : decode cX5_cutOf 43 = .ok (.getfield 19, 3) := by decide +kernel
theorem dX5_cutOf_46 : decode cX5_cutOf 46 = .ok (.iload 6, 2) := by decide +kernel
theorem dX5_cutOf_48 : decode cX5_cutOf 48 = .ok (.iaload, 1) := by decide +kernel
theorem dX5_cutOf_49 : decode cX5_cutOf 49 = .ok (.ifCond .le 35, 3) := by decide +kernel
theorem dX5_cutOf_52 : decode cX5_cutOf 52 = .ok (.aload_n 2, 1) := by decide +kernel
theorem dX5_cutOf_53 : decode cX5_cutOf 53 = .ok (.iload 5, 2) := by decide +kernel
theorem dX5_cutOf_55 : decode cX5_cutOf 55 = .ok (.aload_n 0, 1) := by decide +kernel
theorem dX5_cutOf_56 : decode cX5_cutOf 56 = .ok (.getfield 16, 3) := by decide +kernel
theorem dX5_cutOf_59 : decode cX5_cutOf 59 = .ok (.iload 6, 2) := by decide +kernel
theorem dX5_cutOf_61 : decode cX5_cutOf 61 = .ok (.iaload, 1) := by decide +kernel
theorem dX5_cutOf_62 : decode cX5_cutOf 62 = .ok (.iastore, 1) := by decide +kernel
theorem dX5_cutOf_63 : decode cX5_cutOf 63 = .ok (.aload_n 3, 1) := by decide +kernel
theorem dX5_cutOf_64 : decode cX5_cutOf 64 = .ok (.iload 5, 2) := by decide +kernel
theorem dX5_cutOf_66 : decode cX5_cutOf 66 = .ok (.aload_n 0, 1) := by decide +kernel
theorem dX5_cutOf_67 : decode cX5_cutOf 67 = .ok (.getfield 19, 3) := by decide +kernel
theorem dX5_cutOf_70 : decode cX5_cutOf 70 = .ok (.iload 6, 2) := by decide +kernel
theorem dX5_cutOf_72 : decode cX5_cutOf 72 = .ok (.iaload, 1) := by decide +kernel
theorem dX5_cutOf_73 : decode cX5_cutOf 73 = .ok (.iastore, 1) := by decide +kernel
theorem dX5_cutOf_74 : decode cX5_cutOf 74 = .ok (.aload 4, 2) := by decide +kernel
theorem dX5_cutOf_76 : decode cX5_cutOf 76 = .ok (.iload 5, 2) := by decide +kernel
theorem dX5_cutOf_78 : decode cX5_cutOf 78 = .ok (.iinc 5 1, 3) := by decide +kernel
theorem dX5_cutOf_81 : decode cX5_cutOf 81 = .ok (.iload 6, 2) := by decide +kernel
theorem dX5_cutOf_83 : decode cX5_cutOf 83 = .ok (.iastore, 1) := by decide +kernel
theorem dX5_cutOf_84 : decode cX5_cutOf 84 = .ok (.iinc 6 1, 3) := by decide +kernel
theorem dX5_cutOf_87 : decode cX5_cutOf 87 = .ok (.goto (-65), 3) := by decide +kernel
theorem dX5_cutOf_90 : decode cX5_cutOf 90 = .ok (.bipush 10, 2) := by decide +kernel
theorem dX5_cutOf_92 : decode cX5_cutOf 92 = .ok (.newarray .int, 2) := by decide +kernel
theorem dX5_cutOf_94 : decode cX5_cutOf 94 = .ok (.astore 6, 2) := by decide +kernel
theorem dX5_cutOf_96 : decode cX5_cutOf 96 = .ok (.aload_n 2, 1) := by decide +kernel
theorem dX5_cutOf_97 : decode cX5_cutOf 97 = .ok (.aload_n 3, 1) := by decide +kernel
theorem dX5_cutOf_98 : decode cX5_cutOf 98 = .ok (.iload 5, 2) := by decide +kernel
theorem dX5_cutOf_100 : decode cX5_cutOf 100 = .ok (.aload_n 0, 1) := by decide +kernel
theorem dX5_cutOf_101 : decode cX5_cutOf 101 = .ok (.getfield 25, 3) := by decide +kernel
theorem dX5_cutOf_104 : decode cX5_cutOf 104 = .ok (.invokestatic 61, 3) := by decide +kernel
theorem dX5_cutOf_107 : decode cX5_cutOf 107 = .ok (.astore 7, 2) := by decide +kernel
theorem dX5_cutOf_109 : decode cX5_cutOf 109 = .ok (.iconst 0, 1) := by decide +kernel
theorem dX5_cutOf_110 : decode cX5_cutOf 110 = .ok (.istore 8, 2) := by decide +kernel
theorem dX5_cutOf_112 : decode cX5_cutOf 112 = .ok (.iload 8, 2) := by decide +kernel
theorem dX5_cutOf_114 : decode cX5_cutOf 114 = .ok (.iload 5, 2) := by decide +kernel
theorem dX5_cutOf_116 : decode cX5_cutOf 116 = .ok (.if_icmp .ge 22, 3) := by decide +kernel
theorem dX5_cutOf_119 : decode cX5_cutOf 119 = .ok (.aload 6, 2) := by decide +kernel
theorem dX5_cutOf_121 : decode cX5_cutOf 121 = .ok (.aload 4, 2) := by decide +kernel
theorem dX5_cutOf_123 : decode cX5_cutOf 123 = .ok (.iload 8, 2) := by decide +kernel
theorem dX5_cutOf_125 : decode cX5_cutOf 125 = .ok (.iaload, 1) := by decide +kernel
theorem dX5_cutOf_126 : decode cX5_cutOf 126 = .ok (.aload 7, 2) := by decide +kernel
theorem dX5_cutOf_128 : decode cX5_cutOf 128 = .ok (.iload 8, 2) := by decide +kernel
theorem dX5_cutOf_130 : decode cX5_cutOf 130 = .ok (.iaload, 1) := by decide +kernel
theorem dX5_cutOf_131 : decode cX5_cutOf 131 = .ok (.iastore, 1) := by decide +kernel
theorem dX5_cutOf_132 : decode cX5_cutOf 132 = .ok (.iinc 8 1, 3) := by decide +kernel
theorem dX5_cutOf_135 : decode cX5_cutOf 135 = .ok (.goto (-23), 3) := by decide +kernel
theorem dX5_cutOf_138 : decode cX5_cutOf 138 = .ok (.aload 6, 2) := by decide +kernel
theorem dX5_cutOf_140 : decode cX5_cutOf 140 = .ok (.areturn, 1) := by decide +kernel
theorem dX5_sumOf_0 : decode cX5_sumOf 0 = .ok (.iconst 0, 1) := by decide +kernel
theorem dX5_sumOf_1 : decode cX5_sumOf 1 = .ok (.istore_n 2, 1) := by decide +kernel
theorem dX5_sumOf_2 : decode cX5_sumOf 2 = .ok (.iconst 0, 1) := by decide +kernel
theorem dX5_sumOf_3 : decode cX5_sumOf 3 = .ok (.istore_n 3, 1) := by decide +kernel
theorem dX5_sumOf_4 : decode cX5_sumOf 4 = .ok (.iload_n 3, 1) := by decide +kernel
theorem dX5_sumOf_5 : decode cX5_sumOf 5 = .ok (.aload_n 0, 1) := by decide +kernel
theorem dX5_sumOf_6 : decode cX5_sumOf 6 = .ok (.getfield 58, 3) := by decide +kernel
theorem dX5_sumOf_9 : decode cX5_sumOf 9 = .ok (.if_icmp .ge 22, 3) := by decide +kernel
theorem dX5_sumOf_12 : decode cX5_sumOf 12 = .ok (.iload_n 2, 1) := by decide +kernel
theorem dX5_sumOf_13 : decode cX5_sumOf 13 = .ok (.aload_n 1, 1) := by decide +kernel
theorem dX5_sumOf_14 : decode cX5_sumOf 14 = .ok (.iload_n 3, 1) := by decide +kernel
theorem dX5_sumOf_15 : decode cX5_sumOf 15 = .ok (.iaload, 1) := by decide +kernel
theorem dX5_sumOf_16 : decode cX5_sumOf 16 = .ok (.aload_n 0, 1) := by decide +kernel
theorem dX5_sumOf_17 : decode cX5_sumOf 17 = .ok (.getfield 16, 3) := by decide +kernel
theorem dX5_sumOf_20 : decode cX5_sumOf 20 = .ok (.iload_n 3, 1) := by decide +kernel
theorem dX5_sumOf_21 : decode cX5_sumOf 21 = .ok (.iaload, 1) := by decide +kernel
theorem dX5_sumOf_22 : decode cX5_sumOf 22 = .ok (.imul, 1) := by decide +kernel
theorem dX5_sumOf_23 : decode cX5_sumOf 23 = .ok (.iadd, 1) := by decide +kernel
theorem dX5_sumOf_24 : decode cX5_sumOf 24 = .ok (.istore_n 2, 1) := by decide +kernel
theorem dX5_sumOf_25 : decode cX5_sumOf 25 = .ok (.iinc 3 1, 3) := by decide +kernel
theorem dX5_sumOf_28 : decode cX5_sumOf 28 = .ok (.goto (-24), 3) := by decide +kernel
theorem dX5_sumOf_31 : decode cX5_sumOf 31 = .ok (.iload_n 2, 1) := by decide +kernel
theorem dX5_sumOf_32 : decode cX5_sumOf 32 = .ok (.ireturn, 1) := by decide +kernel
set_option maxRecDepth 20000 in
theorem ggX5_makes_X5_broke : GoodIn wsX5_makes wsX5_broke := goodIn_r _ [24, 11, 12, 10, 25, 26, 27, 28, 29, 30, 31, 32, 33, 34, 35, 36, 37, 38, 39, 40, 41, 42, 43, 44, 45, 46, 47] (by decide +kernel) (by decide +kernel)
set_option maxRecDepth 20000 in
theorem gX5_makes_X5_broke : GoodIn wsX5_makes (wsV RX5 67 RX5 yX5_broke wsX5_broke) := goodIn_app (goodIn_of _ (by decide +kernel)) ggX5_makes_X5_broke
theorem dX5_makes_0 : decode cX5_makes 0 = .ok (.aload_n 0, 1) := by decide +kernel
theorem dX5_makes_1 : decode cX5_makes 1 = .ok (.getfield 7, 3) := by decide +kernel
theorem dX5_makes_4 : decode cX5_makes 4 = .ok (.aload_n 0, 1) := by decide +kernel
theorem dX5_makes_5 : decode cX5_makes 5 = .ok (.getfield 29, 3) := by decide +kernel
theorem dX5_makes_8 : decode cX5_makes 8 = .ok (.iaload, 1) := by decide +kernel
theorem dX5_makes_9 : decode cX5_makes 9 = .ok (.aload_n 0, 1) := by decide +kernel
theorem dX5_makes_10 : decode cX5_makes 10 = .ok (.getfield 25, 3) := by decide +kernel
theorem dX5_makes_13 : decode cX5_makes 13 = .ok (.imul, 1) := by decide +kernel
theorem dX5_makes_14 : decode cX5_makes 14 = .ok (.bipush 10, 2) := by decide +kernel
theorem dX5_makes_16 : decode cX5_makes 16 = .ok (.idiv, 1) := by decide +kernel
theorem dX5_makes_17 : decode cX5_makes 17 = .ok (.istore_n 3, 1) := by decide +kernel
theorem dX5_makes_18 : decode cX5_makes 18 = .ok (.iload_n 3, 1) := by decide +kernel
theorem dX5_makes_19 : decode cX5_makes 19 = .ok (.bipush 50, 2) := by decide +kernel
theorem dX5_makes_21 : decode cX5_makes 21 = .ok (.idiv, 1) := by decide +kernel
theorem dX5_makes_22 : decode cX5_makes 22 = .ok (.istore 4, 2) := by decide +kernel
theorem dX5_makes_24 : decode cX5_makes 24 = .ok (.aload_n 0, 1) := by decide +kernel
theorem dX5_makes_25 : decode cX5_makes 25 = .ok (.invokevirtual 67, 3) := by decide +kernel
theorem dX5_makes_28 : decode cX5_makes 28 = .ok (.iload_n 3, 1) := by decide +kernel
theorem dX5_makes_29 : decode cX5_makes 29 = .ok (.iload 4, 2) := by decide +kernel
theorem dX5_makes_31 : decode cX5_makes 31 = .ok (.iadd, 1) := by decide +kernel
theorem dX5_makes_32 : decode cX5_makes 32 = .ok (.aload_n 0, 1) := by decide +kernel
theorem dX5_makes_33 : decode cX5_makes 33 = .ok (.getfield 36, 3) := by decide +kernel
theorem dX5_makes_36 : decode cX5_makes 36 = .ok (.imul, 1) := by decide +kernel
theorem dX5_makes_37 : decode cX5_makes 37 = .ok (.bipush 100, 2) := by decide +kernel
theorem dX5_makes_39 : decode cX5_makes 39 = .ok (.idiv, 1) := by decide +kernel
theorem dX5_makes_40 : decode cX5_makes 40 = .ok (.invokestatic 71, 3) := by decide +kernel
theorem dX5_makes_43 : decode cX5_makes 43 = .ok (.istore 5, 2) := by decide +kernel
theorem dX5_makes_45 : decode cX5_makes 45 = .ok (.aload_n 0, 1) := by decide +kernel
theorem dX5_makes_46 : decode cX5_makes 46 = .ok (.dup, 1) := by decide +kernel
theorem dX5_makes_47 : decode cX5_makes 47 = .ok (.getfield 77, 3) := by decide +kernel
theorem dX5_makes_50 : decode cX5_makes 50 = .ok (.iload_n 3, 1) := by decide +kernel
theorem dX5_makes_51 : decode cX5_makes 51 = .ok (.i2l, 1) := by decide +kernel
theorem dX5_makes_52 : decode cX5_makes 52 = .ok (.ladd, 1) := by decide +kernel
theorem dX5_makes_53 : decode cX5_makes 53 = .ok (.putfield 77, 3) := by decide +kernel
theorem dX5_makes_56 : decode cX5_makes 56 = .ok (.aload_n 0, 1) := by decide +kernel
theorem dX5_makes_57 : decode cX5_makes 57 = .ok (.dup, 1) := by decide +kernel
theorem dX5_makes_58 : decode cX5_makes 58 = .ok (.getfield 55, 3) := by decide +kernel
theorem dX5_makes_61 : decode cX5_makes 61 = .ok (.iload 4, 2) := by decide +kernel
theorem dX5_makes_63 : decode cX5_makes 63 = .ok (.i2l, 1) := by decide +kernel
theorem dX5_makes_64 : decode cX5_makes 64 = .ok (.ladd, 1) := by decide +kernel
theorem dX5_makes_65 : decode cX5_makes 65 = .ok (.putfield 55, 3) := by decide +kernel
theorem dX5_makes_68 : decode cX5_makes 68 = .ok (.aload_n 0, 1) := by decide +kernel
theorem dX5_makes_69 : decode cX5_makes 69 = .ok (.dup, 1) := by decide +kernel
theorem dX5_makes_70 : decode cX5_makes 70 = .ok (.getfield 48, 3) := by decide +kernel
theorem dX5_makes_73 : decode cX5_makes 73 = .ok (.iload_n 3, 1) := by decide +kernel
theorem dX5_makes_74 : decode cX5_makes 74 = .ok (.iload 4, 2) := by decide +kernel
theorem dX5_makes_76 : decode cX5_makes 76 = .ok (.iadd, 1) := by decide +kernel
theorem dX5_makes_77 : decode cX5_makes 77 = .ok (.iload 5, 2) := by decide +kernel
theorem dX5_makes_79 : decode cX5_makes 79 = .ok (.isub, 1) := by decide +kernel
theorem dX5_makes_80 : decode cX5_makes 80 = .ok (.i2l, 1) := by decide +kernel
theorem dX5_makes_81 : decode cX5_makes 81 = .ok (.ladd, 1) := by decide +kernel
theorem dX5_makes_82 : decode cX5_makes 82 = .ok (.putfield 48, 3) := by decide +kernel
theorem dX5_makes_85 : decode cX5_makes 85 = .ok (.aload_n 0, 1) := by decide +kernel
theorem dX5_makes_86 : decode cX5_makes 86 = .ok (.dup, 1) := by decide +kernel
theorem dX5_makes_87 : decode cX5_makes 87 = .ok (.getfield 52, 3) := by decide +kernel
theorem dX5_makes_90 : decode cX5_makes 90 = .ok (.iload_n 2, 1) := by decide +kernel
theorem dX5_makes_91 : decode cX5_makes 91 = .ok (.ifCond .eq 17, 3) := by decide +kernel
theorem dX5_makes_94 : decode cX5_makes 94 = .ok (.iload_n 3, 1) := by decide +kernel
theorem dX5_makes_95 : decode cX5_makes 95 = .ok (.iload_n 3, 1) := by decide +kernel
theorem dX5_makes_96 : decode cX5_makes 96 = .ok (.iload_n 1, 1) := by decide +kernel
theorem dX5_makes_97 : decode cX5_makes 97 = .ok (.imul, 1) := by decide +kernel
theorem dX5_makes_98 : decode cX5_makes 98 = .ok (.aload_n 0, 1) := by decide +kernel
theorem dX5_makes_99 : decode cX5_makes 99 = .ok (.getfield 25, 3) := by decide +kernel
theorem dX5_makes_102 : decode cX5_makes 102 = .ok (.idiv, 1) := by decide +kernel
theorem dX5_makes_103 : decode cX5_makes 103 = .ok (.isub, 1) := by decide +kernel
theorem dX5_makes_104 : decode cX5_makes 104 = .ok (.i2l, 1) := by decide +kernel
theorem dX5_makes_105 : decode cX5_makes 105 = .ok (.goto 4, 3) := by decide +kernel
theorem dX5_makes_108 : decode cX5_makes 108 = .ok (.lconst 0, 1) := by decide +kernel
theorem dX5_makes_109 : decode cX5_makes 109 = .ok (.ladd, 1) := by decide +kernel
theorem dX5_makes_110 : decode cX5_makes 110 = .ok (.putfield 52, 3) := by decide +kernel
theorem dX5_makes_113 : decode cX5_makes 113 = .ok (.aload_n 0, 1) := by decide +kernel
theorem dX5_makes_114 : decode cX5_makes 114 = .ok (.dup, 1) := by decide +kernel
theorem dX5_makes_115 : decode cX5_makes 115 = .ok (.getfield 80, 3) := by decide +kernel
theorem dX5_makes_118 : decode cX5_makes 118 = .ok (.aload_n 0, 1) := by decide +kernel
theorem dX5_makes_119 : decode cX5_makes 119 = .ok (.getfield 39, 3) := by decide +kernel
theorem dX5_makes_122 : decode cX5_makes 122 = .ok (.iload_n 3, 1) := by decide +kernel
theorem dX5_makes_123 : decode cX5_makes 123 = .ok (.iconst 2, 1) := by decide +kernel
theorem dX5_makes_124 : decode cX5_makes 124 = .ok (.idiv, 1) := by decide +kernel
theorem dX5_makes_125 : decode cX5_makes 125 = .ok (.invokestatic 71, 3) := by decide +kernel
theorem dX5_makes_128 : decode cX5_makes 128 = .ok (.aload_n 0, 1) := by decide +kernel
theorem dX5_makes_129 : decode cX5_makes 129 = .ok (.getfield 42, 3) := by decide +kernel
theorem dX5_makes_132 : decode cX5_makes 132 = .ok (.imul, 1) := by decide +kernel
theorem dX5_makes_133 : decode cX5_makes 133 = .ok (.iconst 0, 1) := by decide +kernel
theorem dX5_makes_134 : decode cX5_makes 134 = .ok (.iload_n 3, 1) := by decide +kernel
theorem dX5_makes_135 : decode cX5_makes 135 = .ok (.iconst 2, 1) := by decide +kernel
theorem dX5_makes_136 : decode cX5_makes 136 = .ok (.idiv, 1) := by decide +kernel
theorem dX5_makes_137 : decode cX5_makes 137 = .ok (.aload_n 0, 1) := by decide +kernel
theorem dX5_makes_138 : decode cX5_makes 138 = .ok (.getfield 39, 3) := by decide +kernel
theorem dX5_makes_141 : decode cX5_makes 141 = .ok (.isub, 1) := by decide +kernel
theorem dX5_makes_142 : decode cX5_makes 142 = .ok (.invokestatic 83, 3) := by decide +kernel
theorem dX5_makes_145 : decode cX5_makes 145 = .ok (.aload_n 0, 1) := by decide +kernel
theorem dX5_makes_146 : decode cX5_makes 146 = .ok (.getfield 45, 3) := by decide +kernel
theorem dX5_makes_149 : decode cX5_makes 149 = .ok (.imul, 1) := by decide +kernel
theorem dX5_makes_150 : decode cX5_makes 150 = .ok (.iadd, 1) := by decide +kernel
theorem dX5_makes_151 : decode cX5_makes 151 = .ok (.i2l, 1) := by decide +kernel
theorem dX5_makes_152 : decode cX5_makes 152 = .ok (.ladd, 1) := by decide +kernel
theorem dX5_makes_153 : decode cX5_makes 153 = .ok (.putfield 80, 3) := by decide +kernel
theorem dX5_makes_156 : decode cX5_makes 156 = .ok (.return_, 1) := by decide +kernel
set_option maxRecDepth 20000 in
theorem ggX5_passes_X5_makes : GoodIn wsX5_passes wsX5_makes := goodIn_r _ [15, 16, 3, 5, 17, 18, 19, 20, 21, 22, 23, 24, 25, 26, 27, 28, 29, 30, 31, 32, 33, 34, 35, 14, 36, 52, 53, 54, 55, 56, 57, 58, 59, 60, 61, 62, 63, 64, 65, 66, 67, 68, 69, 70, 71, 72, 73, 74] (by decide +kernel) (by decide +kernel)
set_option maxRecDepth 20000 in
theorem gX5_passes_X5_makes : GoodIn wsX5_passes (wsV RX5 96 RX5 yX5_makes wsX5_makes) := goodIn_app (goodIn_of _ (by decide +kernel)) ggX5_passes_X5_makes
set_option maxRecDepth 20000 in
theorem ggX5_passes_X5_cutOf : GoodIn wsX5_passes wsX5_cutOf := goodIn_r _ [40, 41, 6, 42, 8, 43, 5, 44, 45, 46, 47, 19, 20, 21, 52, 53, 54, 55, 56, 57, 58, 59, 60, 61, 62, 63, 64, 65, 66, 67, 68, 69, 70, 71, 72, 73, 74] (by decide +kernel) (by decide +kernel)
set_option maxRecDepth 20000 in
theorem gX5_passes_X5_cutOf : GoodIn wsX5_passes (wsV RX5 100 RX5 yX5_cutOf wsX5_cutOf) := goodIn_app (goodIn_of _ (by decide +kernel)) ggX5_passes_X5_cutOf
set_option maxRecDepth 20000 in
theorem ggX5_passes_X5_sumOf : GoodIn wsX5_passes wsX5_sumOf := goodIn_r _ [51, 6, 43, 52, 53, 54, 55, 56, 57, 58, 59, 60, 61, 62, 63, 64, 65, 66, 67, 68, 69, 70, 71, 72, 73, 74] (by decide +kernel) (by decide +kernel)
set_option maxRecDepth 20000 in
theorem gX5_passes_X5_sumOf : GoodIn wsX5_passes (wsV RX5 104 RX5 yX5_sumOf wsX5_sumOf) := goodIn_app (goodIn_of _ (by decide +kernel)) ggX5_passes_X5_sumOf
theorem dX5_passes_0 : decode cX5_passes 0 = .ok (.aload_n 0, 1) := by decide +kernel
theorem dX5_passes_1 : decode cX5_passes 1 = .ok (.dup, 1) := by decide +kernel
theorem dX5_passes_2 : decode cX5_passes 2 = .ok (.getfield 86, 3) := by decide +kernel
theorem dX5_passes_5 : decode cX5_passes 5 = .ok (.iconst 1, 1) := by decide +kernel
theorem dX5_passes_6 : decode cX5_passes 6 = .ok (.iadd, 1) := by decide +kernel
theorem dX5_passes_7 : decode cX5_passes 7 = .ok (.putfield 86, 3) := by decide +kernel
theorem dX5_passes_10 : decode cX5_passes 10 = .ok (.aload_n 0, 1) := by decide +kernel
theorem dX5_passes_11 : decode cX5_passes 11 = .ok (.bipush 110, 2) := by decide +kernel
theorem dX5_passes_13 : decode cX5_passes 13 = .ok (.putfield 89, 3) := by decide +kernel
theorem dX5_passes_16 : decode cX5_passes 16 = .ok (.aload_n 0, 1) := by decide +kernel
theorem dX5_passes_17 : decode cX5_passes 17 = .ok (.getfield 29, 3) := by decide +kernel
theorem dX5_passes_20 : decode cX5_passes 20 = .ok (.ifCond .ge 5, 3) := by decide +kernel
theorem dX5_passes_23 : decode cX5_passes 23 = .ok (.iconst 0, 1) := by decide +kernel
theorem dX5_passes_24 : decode cX5_passes 24 = .ok (.ireturn, 1) := by decide +kernel
theorem dX5_passes_25 : decode cX5_passes 25 = .ok (.aload_n 0, 1) := by decide +kernel
theorem dX5_passes_26 : decode cX5_passes 26 = .ok (.getfield 93, 3) := by decide +kernel
theorem dX5_passes_29 : decode cX5_passes 29 = .ok (.ifCond .le 27, 3) := by decide +kernel
theorem dX5_passes_32 : decode cX5_passes 32 = .ok (.aload_n 0, 1) := by decide +kernel
theorem dX5_passes_33 : decode cX5_passes 33 = .ok (.dup, 1) := by decide +kernel
theorem dX5_passes_34 : decode cX5_passes 34 = .ok (.getfield 93, 3) := by decide +kernel
theorem dX5_passes_37 : decode cX5_passes 37 = .ok (.iconst 1, 1) := by decide +kernel
theorem dX5_passes_38 : decode cX5_passes 38 = .ok (.isub, 1) := by decide +kernel
theorem dX5_passes_39 : decode cX5_passes 39 = .ok (.putfield 93, 3) := by decide +kernel
theorem dX5_passes_42 : decode cX5_passes 42 = .ok (.aload_n 0, 1) := by decide +kernel
theorem dX5_passes_43 : decode cX5_passes 43 = .ok (.bipush 99, 2) := by decide +kernel
theorem dX5_passes_45 : decode cX5_passes 45 = .ok (.putfield 89, 3) := by decide +kernel
theorem dX5_passes_48 : decode cX5_passes 48 = .ok (.aload_n 0, 1) := by decide +kernel
theorem dX5_passes_49 : decode cX5_passes 49 = .ok (.iconst 0, 1) := by decide +kernel
theorem dX5_passes_50 : decode cX5_passes 50 = .ok (.iconst 0, 1) := by decide +kernel
theorem dX5_passes_51 : decode cX5_passes 51 = .ok (.invokevirtual 96, 3) := by decide +kernel
theorem dX5_passes_54 : decode cX5_passes 54 = .ok (.iconst 0, 1) := by decide +kernel
theorem dX5_passes_55 : decode cX5_passes 55 = .ok (.ireturn, 1) := by decide +kernel
theorem dX5_passes_56 : decode cX5_passes 56 = .ok (.aload_n 0, 1) := by decide +kernel
theorem dX5_passes_57 : decode cX5_passes 57 = .ok (.aload_n 0, 1) := by decide +kernel
theorem dX5_passes_58 : decode cX5_passes 58 = .ok (.getfield 29, 3) := by decide +kernel
theorem dX5_passes_61 : decode cX5_passes 61 = .ok (.invokevirtual 100, 3) := by decide +kernel
theorem dX5_passes_64 : decode cX5_passes 64 = .ok (.astore_n 1, 1) := by decide +kernel
theorem dX5_passes_65 : decode cX5_passes 65 = .ok (.iconst 0, 1) := by decide +kernel
theorem dX5_passes_66 : decode cX5_passes 66 = .ok (.istore_n 2, 1) := by decide +kernel
theorem dX5_passes_67 : decode cX5_passes 67 = .ok (.aload_n 0, 1) := by decide +kernel
theorem dX5_passes_68 : decode cX5_passes 68 = .ok (.getfield 25, 3) := by decide +kernel
theorem dX5_passes_71 : decode cX5_passes 71 = .ok (.aload_n 0, 1) := by decide +kernel
theorem dX5_passes_72 : decode cX5_passes 72 = .ok (.aload_n 1, 1) := by decide +kernel
theorem dX5_passes_73 : decode cX5_passes 73 = .ok (.invokevirtual 104, 3) := by decide +kernel
theorem dX5_passes_76 : decode cX5_passes 76 = .ok (.isub, 1) := by decide +kernel
theorem dX5_passes_77 : decode cX5_passes 77 = .ok (.istore_n 3, 1) := by decide +kernel
theorem dX5_passes_78 : decode cX5_passes 78 = .ok (.iconst 0, 1) := by decide +kernel
theorem dX5_passes_79 : decode cX5_passes 79 = .ok (.istore 4, 2) := by decide +kernel
theorem dX5_passes_81 : decode cX5_passes 81 = .ok (.iload 4, 2) := by decide +kernel
theorem dX5_passes_83 : decode cX5_passes 83 = .ok (.aload_n 0, 1) := by decide +kernel
theorem dX5_passes_84 : decode cX5_passes 84 = .ok (.getfield 58, 3) := by decide +kernel
theorem dX5_passes_87 : decode cX5_passes 87 = .ok (.if_icmp .ge 44, 3) := by decide +kernel
theorem dX5_passes_90 : decode cX5_passes 90 = .ok (.iload_n 2, 1) := by decide +kernel
theorem dX5_passes_91 : decode cX5_passes 91 = .ok (.aload_n 1, 1) := by decide +kernel
theorem dX5_passes_92 : decode cX5_passes 92 = .ok (.iload 4, 2) := by decide +kernel
theorem dX5_passes_94 : decode cX5_passes 94 = .ok (.iaload, 1) := by decide +kernel
theorem dX5_passes_95 : decode cX5_passes 95 = .ok (.iadd, 1) := by decide +kernel
theorem dX5_passes_96 : decode cX5_passes 96 = .ok (.istore_n 2, 1) := by decide +kernel
theorem dX5_passes_97 : decode cX5_passes 97 = .ok (.aload_n 0, 1) := by decide +kernel
theorem dX5_passes_98 : decode cX5_passes 98 = .ok (.getfield 22, 3) := by decide +kernel
theorem dX5_passes_101 : decode cX5_passes 101 = .ok (.iload 4, 2) := by decide +kernel
theorem dX5_passes_103 : decode cX5_passes 103 = .ok (.dup2, 1) := by decide +kernel
theorem dX5_passes_104 : decode cX5_passes 104 = .ok (.iaload, 1) := by decide +kernel
theorem dX5_passes_105 : decode cX5_passes 105 = .ok (.aload_n 1, 1) := by decide +kernel
theorem dX5_passes_106 : decode cX5_passes 106 = .ok (.iload 4, 2) := by decide +kernel
theorem dX5_passes_108 : decode cX5_passes 108 = .ok (.iaload, 1) := by decide +kernel
theorem dX5_passes_109 : decode cX5_passes 109 = .ok (.iadd, 1) := by decide +kernel
theorem dX5_passes_110 : decode cX5_passes 110 = .ok (.iastore, 1) := by decide +kernel
theorem dX5_passes_111 : decode cX5_passes 111 = .ok (.aload_n 0, 1) := by decide +kernel
theorem dX5_passes_112 : decode cX5_passes 112 = .ok (.getfield 19, 3) := by decide +kernel
theorem dX5_passes_115 : decode cX5_passes 115 = .ok (.iload 4, 2) := by decide +kernel
theorem dX5_passes_117 : decode cX5_passes 117 = .ok (.dup2, 1) := by decide +kernel
theorem dX5_passes_118 : decode cX5_passes 118 = .ok (.iaload, 1) := by decide +kernel
theorem dX5_passes_119 : decode cX5_passes 119 = .ok (.aload_n 1, 1) := by decide +kernel
theorem dX5_passes_120 : decode cX5_passes 120 = .ok (.iload 4, 2) := by decide +kernel
theorem dX5_passes_122 : decode cX5_passes 122 = .ok (.iaload, 1) := by decide +kernel
theorem dX5_passes_123 : decode cX5_passes 123 = .ok (.isub, 1) := by decide +kernel
theorem dX5_passes_124 : decode cX5_passes 124 = .ok (.iastore, 1) := by decide +kernel
theorem dX5_passes_125 : decode cX5_passes 125 = .ok (.iinc 4 1, 3) := by decide +kernel
theorem dX5_passes_128 : decode cX5_passes 128 = .ok (.goto (-47), 3) := by decide +kernel
theorem dX5_passes_131 : decode cX5_passes 131 = .ok (.iload_n 2, 1) := by decide +kernel
theorem dX5_passes_132 : decode cX5_passes 132 = .ok (.ifCond .le 35, 3) := by decide +kernel
theorem dX5_passes_135 : decode cX5_passes 135 = .ok (.aload_n 0, 1) := by decide +kernel
theorem dX5_passes_136 : decode cX5_passes 136 = .ok (.bipush 112, 2) := by decide +kernel
theorem dX5_passes_138 : decode cX5_passes 138 = .ok (.putfield 89, 3) := by decide +kernel
theorem dX5_passes_141 : decode cX5_passes 141 = .ok (.aload_n 0, 1) := by decide +kernel
theorem dX5_passes_142 : decode cX5_passes 142 = .ok (.dup, 1) := by decide +kernel
theorem dX5_passes_143 : decode cX5_passes 143 = .ok (.getfield 108, 3) := by decide +kernel
theorem dX5_passes_146 : decode cX5_passes 146 = .ok (.iconst 1, 1) := by decide +kernel
theorem dX5_passes_147 : decode cX5_passes 147 = .ok (.iadd, 1) := by decide +kernel
theorem dX5_passes_148 : decode cX5_passes 148 = .ok (.putfield 108, 3) := by decide +kernel
theorem dX5_passes_151 : decode cX5_passes 151 = .ok (.aload_n 0, 1) := by decide +kernel
theorem dX5_passes_152 : decode cX5_passes 152 = .ok (.dup, 1) := by decide +kernel
theorem dX5_passes_153 : decode cX5_passes 153 = .ok (.getfield 111, 3) := by decide +kernel
theorem dX5_passes_156 : decode cX5_passes 156 = .ok (.iload_n 3, 1) := by decide +kernel
theorem dX5_passes_157 : decode cX5_passes 157 = .ok (.iadd, 1) := by decide +kernel
theorem dX5_passes_158 : decode cX5_passes 158 = .ok (.putfield 111, 3) := by decide +kernel
theorem dX5_passes_161 : decode cX5_passes 161 = .ok (.aload_n 0, 1) := by decide +kernel
theorem dX5_passes_162 : decode cX5_passes 162 = .ok (.iload_n 3, 1) := by decide +kernel
theorem dX5_passes_163 : decode cX5_passes 163 = .ok (.iconst 1, 1) := by decide +kernel
theorem dX5_passes_164 : decode cX5_passes 164 = .ok (.invokevirtual 96, 3) := by decide +kernel
theorem dX5_passes_167 : decode cX5_passes 167 = .ok (.iload_n 2, 1) := by decide +kernel
theorem dX5_passes_168 : decode cX5_passes 168 = .ok (.ireturn, 1) := by decide +kernel
theorem dX5_next_0 : decode cX5_next 0 = .ok (.iconst 3, 1) := by decide +kernel
theorem dX5_next_1 : decode cX5_next 1 = .ok (.newarray .boolean, 2) := by decide +kernel
theorem dX5_next_3 : decode cX5_next 3 = .ok (.astore_n 1, 1) := by decide +kernel
theorem dX5_next_4 : decode cX5_next 4 = .ok (.iconst 0, 1) := by decide +kernel
theorem dX5_next_5 : decode cX5_next 5 = .ok (.istore_n 2, 1) := by decide +kernel
end
section
theorem dX5_next_6 : decode cX5_next 6 = .ok (.iload_n 2, 1) := by decide +kernel
theorem dX5_next_7 : decode cX5_next 7 = .ok (.aload_n 0, 1) := by decide +kernel
theorem dX5_next_8 : decode cX5_next 8 = .ok (.getfield 58, 3) := by decide +kernel
theorem dX5_next_11 : decode cX5_next 11 = .ok (.if_icmp .ge 42, 3) := by decide +kernel
theorem dX5_next_14 : decode cX5_next 14 = .ok (.aload_n 1, 1) := by decide +kernel
theorem dX5_next_15 : decode cX5_next 15 = .ok (.aload_n 0, 1) := by decide +kernel
theorem dX5_next_16 : decode cX5_next 16 = .ok (.getfield 13, 3) := by decide +kernel
theorem dX5_next_19 : decode cX5_next 19 = .ok (.iload_n 2, 1) := by decide +kernel
theorem dX5_next_20 : decode cX5_next 20 = .ok (.iaload, 1) := by decide +kernel
theorem dX5_next_21 : decode cX5_next 21 = .ok (.aload_n 1, 1) := by decide +kernel
theorem dX5_next_22 : decode cX5_next 22 = .ok (.aload_n 0, 1) := by decide +kernel
theorem dX5_next_23 : decode cX5_next 23 = .ok (.getfield 13, 3) := by decide +kernel
theorem dX5_next_26 : decode cX5_next 26 = .ok (.iload_n 2, 1) := by decide +kernel
theorem dX5_next_27 : decode cX5_next 27 = .ok (.iaload, 1) := by decide +kernel
theorem dX5_next_28 : decode cX5_next 28 = .ok (.baload, 1) := by decide +kernel
theorem dX5_next_29 : decode cX5_next 29 = .ok (.ifCond .ne 12, 3) := by decide +kernel
theorem dX5_next_32 : decode cX5_next 32 = .ok (.aload_n 0, 1) := by decide +kernel
theorem dX5_next_33 : decode cX5_next 33 = .ok (.getfield 19, 3) := by decide +kernel
theorem dX5_next_36 : decode cX5_next 36 = .ok (.iload_n 2, 1) := by decide +kernel
theorem dX5_next_37 : decode cX5_next 37 = .ok (.iaload, 1) := by decide +kernel
theorem dX5_next_38 : decode cX5_next 38 = .ok (.ifCond .le 7, 3) := by decide +kernel
theorem dX5_next_41 : decode cX5_next 41 = .ok (.iconst 1, 1) := by decide +kernel
theorem dX5_next_42 : decode cX5_next 42 = .ok (.goto 4, 3) := by decide +kernel
theorem dX5_next_45 : decode cX5_next 45 = .ok (.iconst 0, 1) := by decide +kernel
theorem dX5_next_46 : decode cX5_next 46 = .ok (.bastore, 1) := by decide +kernel
theorem dX5_next_47 : decode cX5_next 47 = .ok (.iinc 2 1, 3) := by decide +kernel
theorem dX5_next_50 : decode cX5_next 50 = .ok (.goto (-44), 3) := by decide +kernel
theorem dX5_next_53 : decode cX5_next 53 = .ok (.iconst 0, 1) := by decide +kernel
theorem dX5_next_54 : decode cX5_next 54 = .ok (.istore_n 2, 1) := by decide +kernel
theorem dX5_next_55 : decode cX5_next 55 = .ok (.iload_n 2, 1) := by decide +kernel
theorem dX5_next_56 : decode cX5_next 56 = .ok (.iconst 2, 1) := by decide +kernel
theorem dX5_next_57 : decode cX5_next 57 = .ok (.if_icmp .ge 90, 3) := by decide +kernel
theorem dX5_next_60 : decode cX5_next 60 = .ok (.aload_n 0, 1) := by decide +kernel
theorem dX5_next_61 : decode cX5_next 61 = .ok (.getfield 32, 3) := by decide +kernel
theorem dX5_next_64 : decode cX5_next 64 = .ok (.iload_n 2, 1) := by decide +kernel
theorem dX5_next_65 : decode cX5_next 65 = .ok (.ifCond .ne 7, 3) := by decide +kernel
theorem dX5_next_68 : decode cX5_next 68 = .ok (.iconst 1, 1) := by decide +kernel
theorem dX5_next_69 : decode cX5_next 69 = .ok (.goto 4, 3) := by decide +kernel
theorem dX5_next_72 : decode cX5_next 72 = .ok (.iconst 0, 1) := by decide +kernel
theorem dX5_next_73 : decode cX5_next 73 = .ok (.if_icmp .ne 7, 3) := by decide +kernel
theorem dX5_next_76 : decode cX5_next 76 = .ok (.iconst 1, 1) := by decide +kernel
theorem dX5_next_77 : decode cX5_next 77 = .ok (.goto 4, 3) := by decide +kernel
theorem dX5_next_80 : decode cX5_next 80 = .ok (.iconst 0, 1) := by decide +kernel
theorem dX5_next_81 : decode cX5_next 81 = .ok (.istore_n 3, 1) := by decide +kernel
theorem dX5_next_82 : decode cX5_next 82 = .ok (.iload_n 3, 1) := by decide +kernel
theorem dX5_next_83 : decode cX5_next 83 = .ok (.ifCond .eq 12, 3) := by decide +kernel
theorem dX5_next_86 : decode cX5_next 86 = .ok (.aload_n 0, 1) := by decide +kernel
theorem dX5_next_87 : decode cX5_next 87 = .ok (.getfield 29, 3) := by decide +kernel
theorem dX5_next_90 : decode cX5_next 90 = .ok (.iconst 1, 1) := by decide +kernel
theorem dX5_next_91 : decode cX5_next 91 = .ok (.iadd, 1) := by decide +kernel
theorem dX5_next_92 : decode cX5_next 92 = .ok (.goto 9, 3) := by decide +kernel
theorem dX5_next_95 : decode cX5_next 95 = .ok (.aload_n 0, 1) := by decide +kernel
theorem dX5_next_96 : decode cX5_next 96 = .ok (.getfield 29, 3) := by decide +kernel
theorem dX5_next_99 : decode cX5_next 99 = .ok (.iconst 1, 1) := by decide +kernel
theorem dX5_next_100 : decode cX5_next 100 = .ok (.isub, 1) := by decide +kernel
theorem dX5_next_101 : decode cX5_next 101 = .ok (.istore 4, 2) := by decide +kernel
theorem dX5_next_103 : decode cX5_next 103 = .ok (.iload 4, 2) := by decide +kernel
theorem dX5_next_105 : decode cX5_next 105 = .ok (.ifCond .lt 36, 3) := by decide +kernel
theorem dX5_next_108 : decode cX5_next 108 = .ok (.iload 4, 2) := by decide +kernel
theorem dX5_next_110 : decode cX5_next 110 = .ok (.iconst 3, 1) := by decide +kernel
theorem dX5_next_111 : decode cX5_next 111 = .ok (.if_icmp .ge 30, 3) := by decide +kernel
theorem dX5_next_114 : decode cX5_next 114 = .ok (.aload_n 1, 1) := by decide +kernel
theorem dX5_next_115 : decode cX5_next 115 = .ok (.iload 4, 2) := by decide +kernel
theorem dX5_next_117 : decode cX5_next 117 = .ok (.baload, 1) := by decide +kernel
theorem dX5_next_118 : decode cX5_next 118 = .ok (.ifCond .eq 6, 3) := by decide +kernel
theorem dX5_next_121 : decode cX5_next 121 = .ok (.iload 4, 2) := by decide +kernel
theorem dX5_next_123 : decode cX5_next 123 = .ok (.ireturn, 1) := by decide +kernel
theorem dX5_next_124 : decode cX5_next 124 = .ok (.iload 4, 2) := by decide +kernel
theorem dX5_next_126 : decode cX5_next 126 = .ok (.iload_n 3, 1) := by decide +kernel
theorem dX5_next_127 : decode cX5_next 127 = .ok (.ifCond .eq 7, 3) := by decide +kernel
theorem dX5_next_130 : decode cX5_next 130 = .ok (.iconst 1, 1) := by decide +kernel
theorem dX5_next_131 : decode cX5_next 131 = .ok (.goto 4, 3) := by decide +kernel
theorem dX5_next_134 : decode cX5_next 134 = .ok (.iconst (-1), 1) := by decide +kernel
theorem dX5_next_135 : decode cX5_next 135 = .ok (.iadd, 1) := by decide +kernel
theorem dX5_next_136 : decode cX5_next 136 = .ok (.istore 4, 2) := by decide +kernel
theorem dX5_next_138 : decode cX5_next 138 = .ok (.goto (-35), 3) := by decide +kernel
theorem dX5_next_141 : decode cX5_next 141 = .ok (.iinc 2 1, 3) := by decide +kernel
theorem dX5_next_144 : decode cX5_next 144 = .ok (.goto (-89), 3) := by decide +kernel
theorem dX5_next_147 : decode cX5_next 147 = .ok (.iconst (-1), 1) := by decide +kernel
theorem dX5_next_148 : decode cX5_next 148 = .ok (.ireturn, 1) := by decide +kernel
theorem dJ9_abs_0f7a4_0 : decode cJ9_abs_0f7a4 0 = .ok (.iload_n 0, 1) := by decide +kernel
theorem dJ9_abs_0f7a4_1 : decode cJ9_abs_0f7a4 1 = .ok (.ifCond .ge 8, 3) := by decide +kernel
theorem dJ9_abs_0f7a4_4 : decode cJ9_abs_0f7a4 4 = .ok (.iload_n 0, 1) := by decide +kernel
theorem dJ9_abs_0f7a4_5 : decode cJ9_abs_0f7a4 5 = .ok (.ineg, 1) := by decide +kernel
theorem dJ9_abs_0f7a4_6 : decode cJ9_abs_0f7a4 6 = .ok (.goto 4, 3) := by decide +kernel
theorem dJ9_abs_0f7a4_9 : decode cJ9_abs_0f7a4 9 = .ok (.iload_n 0, 1) := by decide +kernel
theorem dJ9_abs_0f7a4_10 : decode cJ9_abs_0f7a4 10 = .ok (.ireturn, 1) := by decide +kernel
theorem dJ9_max_7cf53_0 : decode cJ9_max_7cf53 0 = .ok (.iload_n 0, 1) := by decide +kernel
theorem dJ9_max_7cf53_1 : decode cJ9_max_7cf53 1 = .ok (.iload_n 1, 1) := by decide +kernel
theorem dJ9_max_7cf53_2 : decode cJ9_max_7cf53 2 = .ok (.if_icmp .lt 7, 3) := by decide +kernel
theorem dJ9_max_7cf53_5 : decode cJ9_max_7cf53 5 = .ok (.iload_n 0, 1) := by decide +kernel
theorem dJ9_max_7cf53_6 : decode cJ9_max_7cf53 6 = .ok (.goto 4, 3) := by decide +kernel
theorem dJ9_max_7cf53_9 : decode cJ9_max_7cf53 9 = .ok (.iload_n 1, 1) := by decide +kernel
theorem dJ9_max_7cf53_10 : decode cJ9_max_7cf53 10 = .ok (.ireturn, 1) := by decide +kernel
theorem dJ9_min_7cf53_0 : decode cJ9_min_7cf53 0 = .ok (.iload_n 0, 1) := by decide +kernel
theorem dJ9_min_7cf53_1 : decode cJ9_min_7cf53 1 = .ok (.iload_n 1, 1) := by decide +kernel
theorem dJ9_min_7cf53_2 : decode cJ9_min_7cf53 2 = .ok (.if_icmp .gt 7, 3) := by decide +kernel
theorem dJ9_min_7cf53_5 : decode cJ9_min_7cf53 5 = .ok (.iload_n 0, 1) := by decide +kernel
theorem dJ9_min_7cf53_6 : decode cJ9_min_7cf53 6 = .ok (.goto 4, 3) := by decide +kernel
theorem dJ9_min_7cf53_9 : decode cJ9_min_7cf53 9 = .ok (.iload_n 1, 1) := by decide +kernel
theorem dJ9_min_7cf53_10 : decode cJ9_min_7cf53 10 = .ok (.ireturn, 1) := by decide +kernel
theorem dJ7_fill_53178_0 : decode cJ7_fill_53178 0 = .ok (.iconst 0, 1) := by decide +kernel
theorem dJ7_fill_53178_1 : decode cJ7_fill_53178 1 = .ok (.istore_n 2, 1) := by decide +kernel
theorem dJ7_fill_53178_2 : decode cJ7_fill_53178 2 = .ok (.aload_n 0, 1) := by decide +kernel
theorem dJ7_fill_53178_3 : decode cJ7_fill_53178 3 = .ok (.arraylength, 1) := by decide +kernel
theorem dJ7_fill_53178_4 : decode cJ7_fill_53178 4 = .ok (.istore_n 3, 1) := by decide +kernel
theorem dJ7_fill_53178_5 : decode cJ7_fill_53178 5 = .ok (.iload_n 2, 1) := by decide +kernel
theorem dJ7_fill_53178_6 : decode cJ7_fill_53178 6 = .ok (.iload_n 3, 1) := by decide +kernel
theorem dJ7_fill_53178_7 : decode cJ7_fill_53178 7 = .ok (.if_icmp .ge 13, 3) := by decide +kernel
theorem dJ7_fill_53178_10 : decode cJ7_fill_53178 10 = .ok (.aload_n 0, 1) := by decide +kernel
theorem dJ7_fill_53178_11 : decode cJ7_fill_53178 11 = .ok (.iload_n 2, 1) := by decide +kernel
theorem dJ7_fill_53178_12 : decode cJ7_fill_53178 12 = .ok (.iload_n 1, 1) := by decide +kernel
theorem dJ7_fill_53178_13 : decode cJ7_fill_53178 13 = .ok (.iastore, 1) := by decide +kernel
theorem dJ7_fill_53178_14 : decode cJ7_fill_53178 14 = .ok (.iinc 2 1, 3) := by decide +kernel
theorem dJ7_fill_53178_17 : decode cJ7_fill_53178 17 = .ok (.goto (-12), 3) := by decide +kernel
theorem dJ7_fill_53178_20 : decode cJ7_fill_53178 20 = .ok (.return_, 1) := by decide +kernel
theorem dL_cell_0 : decode cL_cell 0 = .ok (.iload_n 1, 1) := by decide +kernel
theorem dL_cell_1 : decode cL_cell 1 = .ok (.aload_n 0, 1) := by decide +kernel
theorem dL_cell_2 : decode cL_cell 2 = .ok (.arraylength, 1) := by decide +kernel
theorem dL_cell_3 : decode cL_cell 3 = .ok (.if_icmp .ge 9, 3) := by decide +kernel
theorem dL_cell_6 : decode cL_cell 6 = .ok (.aload_n 0, 1) := by decide +kernel
theorem dL_cell_7 : decode cL_cell 7 = .ok (.iload_n 1, 1) := by decide +kernel
theorem dL_cell_8 : decode cL_cell 8 = .ok (.iaload, 1) := by decide +kernel
theorem dL_cell_9 : decode cL_cell 9 = .ok (.goto 11, 3) := by decide +kernel
theorem dL_cell_12 : decode cL_cell 12 = .ok (.ldc 7, 2) := by decide +kernel
theorem dL_cell_14 : decode cL_cell 14 = .ok (.iload_n 1, 1) := by decide +kernel
theorem dL_cell_15 : decode cL_cell 15 = .ok (.imul, 1) := by decide +kernel
theorem dL_cell_16 : decode cL_cell 16 = .ok (.sipush 1249, 3) := by decide +kernel
theorem dL_cell_19 : decode cL_cell 19 = .ok (.iadd, 1) := by decide +kernel
theorem dL_cell_20 : decode cL_cell 20 = .ok (.ireturn, 1) := by decide +kernel
theorem dL_low_0 : decode cL_low 0 = .ok (.iload_n 0, 1) := by decide +kernel
theorem dL_low_1 : decode cL_low 1 = .ok (.ldc 8, 2) := by decide +kernel
theorem dL_low_3 : decode cL_low 3 = .ok (.iand, 1) := by decide +kernel
theorem dL_low_4 : decode cL_low 4 = .ok (.iload_n 1, 1) := by decide +kernel
theorem dL_low_5 : decode cL_low 5 = .ok (.irem, 1) := by decide +kernel
theorem dL_low_6 : decode cL_low 6 = .ok (.ireturn, 1) := by decide +kernel
theorem dL_best_0 : decode cL_best 0 = .ok (.iload_n 2, 1) := by decide +kernel
theorem dL_best_1 : decode cL_best 1 = .ok (.newarray .int, 2) := by decide +kernel
theorem dL_best_3 : decode cL_best 3 = .ok (.astore 4, 2) := by decide +kernel
theorem dL_best_5 : decode cL_best 5 = .ok (.iload_n 2, 1) := by decide +kernel
theorem dL_best_6 : decode cL_best 6 = .ok (.newarray .int, 2) := by decide +kernel
theorem dL_best_8 : decode cL_best 8 = .ok (.astore 5, 2) := by decide +kernel
theorem dL_best_10 : decode cL_best 10 = .ok (.iconst 0, 1) := by decide +kernel
theorem dL_best_11 : decode cL_best 11 = .ok (.istore 6, 2) := by decide +kernel
theorem dL_best_13 : decode cL_best 13 = .ok (.iconst 1, 1) := by decide +kernel
theorem dL_best_14 : decode cL_best 14 = .ok (.istore 7, 2) := by decide +kernel
theorem dL_best_16 : decode cL_best 16 = .ok (.iload 7, 2) := by decide +kernel
theorem dL_best_18 : decode cL_best 18 = .ok (.ifCond .eq 166, 3) := by decide +kernel
theorem dL_best_21 : decode cL_best 21 = .ok (.iconst 0, 1) := by decide +kernel
theorem dL_best_22 : decode cL_best 22 = .ok (.istore 8, 2) := by decide +kernel
theorem dL_best_24 : decode cL_best 24 = .ok (.iconst 0, 1) := by decide +kernel
theorem dL_best_25 : decode cL_best 25 = .ok (.istore 9, 2) := by decide +kernel
theorem dL_best_27 : decode cL_best 27 = .ok (.iconst 0, 1) := by decide +kernel
theorem dL_best_28 : decode cL_best 28 = .ok (.istore 10, 2) := by decide +kernel
theorem dL_best_30 : decode cL_best 30 = .ok (.iload 10, 2) := by decide +kernel
theorem dL_best_32 : decode cL_best 32 = .ok (.iload_n 2, 1) := by decide +kernel
theorem dL_best_33 : decode cL_best 33 = .ok (.if_icmp .ge 34, 3) := by decide +kernel
theorem dL_best_36 : decode cL_best 36 = .ok (.iload 8, 2) := by decide +kernel
theorem dL_best_38 : decode cL_best 38 = .ok (.aload 4, 2) := by decide +kernel
theorem dL_best_40 : decode cL_best 40 = .ok (.iload 10, 2) := by decide +kernel
theorem dL_best_42 : decode cL_best 42 = .ok (.iaload, 1) := by decide +kernel
theorem dL_best_43 : decode cL_best 43 = .ok (.iadd, 1) := by decide +kernel
theorem dL_best_44 : decode cL_best 44 = .ok (.istore 8, 2) := by decide +kernel
theorem dL_best_46 : decode cL_best 46 = .ok (.iload 9, 2) := by decide +kernel
theorem dL_best_48 : decode cL_best 48 = .ok (.aload 4, 2) := by decide +kernel
theorem dL_best_50 : decode cL_best 50 = .ok (.iload 10, 2) := by decide +kernel
theorem dL_best_52 : decode cL_best 52 = .ok (.iaload, 1) := by decide +kernel
theorem dL_best_53 : decode cL_best 53 = .ok (.aload_n 0, 1) := by decide +kernel
theorem dL_best_54 : decode cL_best 54 = .ok (.iload 10, 2) := by decide +kernel
theorem dL_best_56 : decode cL_best 56 = .ok (.iaload, 1) := by decide +kernel
theorem dL_best_57 : decode cL_best 57 = .ok (.imul, 1) := by decide +kernel
theorem dL_best_58 : decode cL_best 58 = .ok (.iadd, 1) := by decide +kernel
theorem dL_best_59 : decode cL_best 59 = .ok (.istore 9, 2) := by decide +kernel
theorem dL_best_61 : decode cL_best 61 = .ok (.iinc 10 1, 3) := by decide +kernel
theorem dL_best_64 : decode cL_best 64 = .ok (.goto (-34), 3) := by decide +kernel
theorem dL_best_67 : decode cL_best 67 = .ok (.iload 8, 2) := by decide +kernel
theorem dL_best_69 : decode cL_best 69 = .ok (.bipush 6, 2) := by decide +kernel
theorem dL_best_71 : decode cL_best 71 = .ok (.if_icmp .gt 45, 3) := by decide +kernel
theorem dL_best_74 : decode cL_best 74 = .ok (.iload 9, 2) := by decide +kernel
theorem dL_best_76 : decode cL_best 76 = .ok (.iload_n 3, 1) := by decide +kernel
theorem dL_best_77 : decode cL_best 77 = .ok (.if_icmp .gt 39, 3) := by decide +kernel
theorem dL_best_80 : decode cL_best 80 = .ok (.iload 9, 2) := by decide +kernel
theorem dL_best_82 : decode cL_best 82 = .ok (.iload 6, 2) := by decide +kernel
theorem dL_best_84 : decode cL_best 84 = .ok (.if_icmp .lt 32, 3) := by decide +kernel
theorem dL_best_87 : decode cL_best 87 = .ok (.iload 9, 2) := by decide +kernel
theorem dL_best_89 : decode cL_best 89 = .ok (.istore 6, 2) := by decide +kernel
theorem dL_best_91 : decode cL_best 91 = .ok (.iconst 0, 1) := by decide +kernel
theorem dL_best_92 : decode cL_best 92 = .ok (.istore 10, 2) := by decide +kernel
theorem dL_best_94 : decode cL_best 94 = .ok (.iload 10, 2) := by decide +kernel
theorem dL_best_96 : decode cL_best 96 = .ok (.iload_n 2, 1) := by decide +kernel
theorem dL_best_97 : decode cL_best 97 = .ok (.if_icmp .ge 19, 3) := by decide +kernel
theorem dL_best_100 : decode cL_best 100 = .ok (.aload 5, 2) := by decide +kernel
theorem dL_best_102 : decode cL_best 102 = .ok (.iload 10, 2) := by decide +kernel
theorem dL_best_104 : decode cL_best 104 = .ok (.aload 4, 2) := by decide +kernel
theorem dL_best_106 : decode cL_best 106 = .ok (.iload 10, 2) := by decide +kernel
theorem dL_best_108 : decode cL_best 108 = .ok (.iaload, 1) := by decide +kernel
theorem dL_best_109 : decode cL_best 109 = .ok (.iastore, 1) := by decide +kernel
theorem dL_best_110 : decode cL_best 110 = .ok (.iinc 10 1, 3) := by decide +kernel
theorem dL_best_113 : decode cL_best 113 = .ok (.goto (-19), 3) := by decide +kernel
theorem dL_best_116 : decode cL_best 116 = .ok (.iload_n 2, 1) := by decide +kernel
theorem dL_best_117 : decode cL_best 117 = .ok (.iconst 1, 1) := by decide +kernel
theorem dL_best_118 : decode cL_best 118 = .ok (.isub, 1) := by decide +kernel
theorem dL_best_119 : decode cL_best 119 = .ok (.istore 10, 2) := by decide +kernel
theorem dL_best_121 : decode cL_best 121 = .ok (.iload 10, 2) := by decide +kernel
theorem dL_best_123 : decode cL_best 123 = .ok (.ifCond .lt 32, 3) := by decide +kernel
theorem dL_best_126 : decode cL_best 126 = .ok (.aload 4, 2) := by decide +kernel
theorem dL_best_128 : decode cL_best 128 = .ok (.iload 10, 2) := by decide +kernel
theorem dL_best_130 : decode cL_best 130 = .ok (.iaload, 1) := by decide +kernel
theorem dL_best_131 : decode cL_best 131 = .ok (.bipush 6, 2) := by decide +kernel
theorem dL_best_133 : decode cL_best 133 = .ok (.aload_n 1, 1) := by decide +kernel
theorem dL_best_134 : decode cL_best 134 = .ok (.iload 10, 2) := by decide +kernel
theorem dL_best_136 : decode cL_best 136 = .ok (.iaload, 1) := by decide +kernel
theorem dL_best_137 : decode cL_best 137 = .ok (.invokestatic 9, 3) := by decide +kernel
theorem dL_best_140 : decode cL_best 140 = .ok (.if_icmp .ne 15, 3) := by decide +kernel
theorem dL_best_143 : decode cL_best 143 = .ok (.aload 4, 2) := by decide +kernel
theorem dL_best_145 : decode cL_best 145 = .ok (.iload 10, 2) := by decide +kernel
theorem dL_best_147 : decode cL_best 147 = .ok (.iconst 0, 1) := by decide +kernel
theorem dL_best_148 : decode cL_best 148 = .ok (.iastore, 1) := by decide +kernel
theorem dL_best_149 : decode cL_best 149 = .ok (.iinc 10 (-1), 3) := by decide +kernel
theorem dL_best_152 : decode cL_best 152 = .ok (.goto (-31), 3) := by decide +kernel
theorem dL_best_155 : decode cL_best 155 = .ok (.iload 10, 2) := by decide +kernel
theorem dL_best_157 : decode cL_best 157 = .ok (.ifCond .lt 7, 3) := by decide +kernel
theorem dL_best_160 : decode cL_best 160 = .ok (.iconst 1, 1) := by decide +kernel
theorem dL_best_161 : decode cL_best 161 = .ok (.goto 4, 3) := by decide +kernel
theorem dL_best_164 : decode cL_best 164 = .ok (.iconst 0, 1) := by decide +kernel
theorem dL_best_165 : decode cL_best 165 = .ok (.istore 7, 2) := by decide +kernel
theorem dL_best_167 : decode cL_best 167 = .ok (.iload 7, 2) := by decide +kernel
theorem dL_best_169 : decode cL_best 169 = .ok (.ifCond .eq 12, 3) := by decide +kernel
theorem dL_best_172 : decode cL_best 172 = .ok (.aload 4, 2) := by decide +kernel
theorem dL_best_174 : decode cL_best 174 = .ok (.iload 10, 2) := by decide +kernel
theorem dL_best_176 : decode cL_best 176 = .ok (.dup2, 1) := by decide +kernel
theorem dL_best_177 : decode cL_best 177 = .ok (.iaload, 1) := by decide +kernel
theorem dL_best_178 : decode cL_best 178 = .ok (.iconst 1, 1) := by decide +kernel
theorem dL_best_179 : decode cL_best 179 = .ok (.iadd, 1) := by decide +kernel
theorem dL_best_180 : decode cL_best 180 = .ok (.iastore, 1) := by decide +kernel
theorem dL_best_181 : decode cL_best 181 = .ok (.goto (-165), 3) := by decide +kernel
theorem dL_best_184 : decode cL_best 184 = .ok (.aload 5, 2) := by decide +kernel
theorem dL_best_186 : decode cL_best 186 = .ok (.areturn, 1) := by decide +kernel
set_option maxRecDepth 20000 in
theorem ggL_next_X4_next : GoodIn wsL_next wsX4_next := goodIn_ca (goodIn_r _ [6, 7, 8, 9, 10, 11, 12, 13, 14, 5, 15, 16, 17, 18, 19, 20, 21, 22, 23, 24, 25, 26, 27, 28, 29, 30, 31, 32, 33, 34, 35, 36, 37, 38, 39, 40, 41, 42, 43, 44, 45, 46, 47] (by decide +kernel) (by decide +kernel)) (goodIn_sub (fun _ h => List.mem_cons_of_mem _ (List.mem_append_right _ h)) (by decide +kernel))
set_option maxRecDepth 20000 in
theorem gL_next_X4_next : GoodIn wsL_next (wsV RL 15 RX4 yX4_next wsX4_next) := goodIn_app (goodIn_of _ (by decide +kernel)) ggL_next_X4_next
theorem dL_next_0 : decode cL_next 0 = .ok (.aload_n 0, 1) := by decide +kernel
theorem dL_next_1 : decode cL_next 1 = .ok (.invokevirtual 15, 3) := by decide +kernel
theorem dL_next_4 : decode cL_next 4 = .ok (.ireturn, 1) := by decide +kernel
theorem dL_next_5 : decode cL_next 5 = .ok (.astore_n 1, 1) := by decide +kernel
theorem dL_next_6 : decode cL_next 6 = .ok (.iconst (-1), 1) := by decide +kernel
theorem dL_next_7 : decode cL_next 7 = .ok (.ireturn, 1) := by decide +kernel
set_option maxRecDepth 20000 in
theorem ggL_agrees_X4_hours : GoodIn wsL_agrees wsX4_hours := goodIn_r _ [5, 6, 7, 236, 237, 238, 239, 240, 241, 242, 243, 244, 245, 246, 247, 248, 249, 250, 251, 252, 253, 254, 255, 256, 257, 258, 259] (by decide +kernel) (by decide +kernel)
set_option maxRecDepth 20000 in
theorem gL_agrees_X4_hours : GoodIn wsL_agrees (wsV RL 23 RX4 yX4_hours wsX4_hours) := goodIn_app (goodIn_of _ (by decide +kernel)) ggL_agrees_X4_hours
set_option maxRecDepth 20000 in
theorem ggL_agrees_X4_changing : GoodIn wsL_agrees wsX4_changing := goodIn_r _ [11, 12, 236, 237, 238, 239, 240, 241, 242, 243, 244, 245, 246, 247, 248] (by decide +kernel) (by decide +kernel)
set_option maxRecDepth 20000 in
theorem gL_agrees_X4_changing : GoodIn wsL_agrees (wsV RL 31 RX4 yX4_changing wsX4_changing) := goodIn_app (goodIn_of _ (by decide +kernel)) ggL_agrees_X4_changing
set_option maxRecDepth 20000 in
theorem ggL_agrees_X4_broke : GoodIn wsL_agrees wsX4_broke := goodIn_r _ [16, 17, 236, 237, 238, 239, 240, 241, 242, 243, 244, 245, 246, 247, 248] (by decide +kernel) (by decide +kernel)
set_option maxRecDepth 20000 in
theorem gL_agrees_X4_broke : GoodIn wsL_agrees (wsV RL 36 RX4 yX4_broke wsX4_broke) := goodIn_app (goodIn_of _ (by decide +kernel)) ggL_agrees_X4_broke
set_option maxRecDepth 20000 in
theorem ggL_agrees_X5_broke : GoodIn wsL_agrees wsX5_broke := goodIn_r _ [22, 23, 24, 25, 213, 214, 215, 216, 217, 218, 219, 220, 221, 222, 223, 224, 225, 226, 227, 228, 229, 230, 231, 232, 233, 234, 235] (by decide +kernel) (by decide +kernel)
set_option maxRecDepth 20000 in
theorem gL_agrees_X5_broke : GoodIn wsL_agrees (wsV RL 39 RX5 yX5_broke wsX5_broke) := goodIn_app (goodIn_of _ (by decide +kernel)) ggL_agrees_X5_broke
set_option maxRecDepth 20000 in
theorem ggL_agrees_X4_brokeByHours : GoodIn wsL_agrees wsX4_brokeByHours := goodIn_r _ [29, 6, 30, 31, 32, 33, 34, 35, 36, 37, 38, 236, 237, 238, 239, 240, 241, 242, 243, 244, 245, 246, 247, 248, 249, 250, 251, 252, 253, 254, 255, 256, 257, 258, 259] (by decide +kernel) (by decide +kernel)
set_option maxRecDepth 20000 in
theorem gL_agrees_X4_brokeByHours : GoodIn wsL_agrees (wsV RL 40 RX4 yX4_brokeByHours wsX4_brokeByHours) := goodIn_app (goodIn_of _ (by decide +kernel)) ggL_agrees_X4_brokeByHours
set_option maxRecDepth 20000 in
theorem ggL_agrees_X4_fresh : GoodIn wsL_agrees wsX4_fresh := goodIn_r _ [42, 6, 43, 236, 237, 238, 239, 240, 241, 242, 243, 244, 245, 246, 247, 248, 249, 250, 251, 252, 253, 254, 255, 256, 257, 258, 259] (by decide +kernel) (by decide +kernel)
set_option maxRecDepth 20000 in
theorem gL_agrees_X4_fresh : GoodIn wsL_agrees (wsV RL 43 RX4 yX4_fresh wsX4_fresh) := goodIn_app (goodIn_of _ (by decide +kernel)) ggL_agrees_X4_fresh
set_option maxRecDepth 20000 in
theorem ggL_agrees_X4_paper : GoodIn wsL_agrees wsX4_paper := goodIn_r _ [47, 6, 48, 236, 237, 238, 239, 240, 241, 242, 243, 244, 245, 246, 247, 248, 249, 250, 251, 252, 253, 254, 255, 256, 257, 258, 259] (by decide +kernel) (by decide +kernel)
set_option maxRecDepth 20000 in
theorem gL_agrees_X4_paper : GoodIn wsL_agrees (wsV RL 51 RX4 yX4_paper wsX4_paper) := goodIn_app (goodIn_of _ (by decide +kernel)) ggL_agrees_X4_paper
set_option maxRecDepth 20000 in
theorem ggL_agrees_X4_lost : GoodIn wsL_agrees wsX4_lost := goodIn_r _ [52, 6, 53, 236, 237, 238, 239, 240, 241, 242, 243, 244, 245, 246, 247, 248, 249, 250, 251, 252, 253, 254, 255, 256, 257, 258, 259] (by decide +kernel) (by decide +kernel)
set_option maxRecDepth 20000 in
theorem gL_agrees_X4_lost : GoodIn wsL_agrees (wsV RL 56 RX4 yX4_lost wsX4_lost) := goodIn_app (goodIn_of _ (by decide +kernel)) ggL_agrees_X4_lost
set_option maxRecDepth 20000 in
theorem ggL_agrees_X4_steamCost : GoodIn wsL_agrees wsX4_steamCost := goodIn_r _ [57, 58, 236, 237, 238, 239, 240, 241, 242, 243, 244, 245, 246, 247, 248] (by decide +kernel) (by decide +kernel)
set_option maxRecDepth 20000 in
theorem gL_agrees_X4_steamCost : GoodIn wsL_agrees (wsV RL 61 RX4 yX4_steamCost wsX4_steamCost) := goodIn_app (goodIn_of _ (by decide +kernel)) ggL_agrees_X4_steamCost
set_option maxRecDepth 20000 in
theorem ggL_agrees_L_next : GoodIn wsL_agrees wsL_next := goodIn_ca (goodIn_r _ [62, 63, 64, 65, 66, 4, 67, 68, 69, 70, 71, 72, 73, 74, 75, 76, 77, 78, 79, 80, 81, 82, 83, 84, 85, 86, 87, 88, 89, 90, 236, 237, 238, 239, 240, 241, 242, 243, 244, 245, 246, 247, 248, 260, 261, 262, 263, 264] (by decide +kernel) (by decide +kernel)) (goodIn_sub (fun _ h => List.mem_cons_of_mem _ (List.mem_append_left _ (List.mem_append_left _ (List.mem_append_right _ h)))) (by decide +kernel))
set_option maxRecDepth 20000 in
theorem gL_agrees_L_next : GoodIn wsL_agrees (va_wsS RL 67 yL_next wsL_next) := goodIn_app (goodIn_of _ (by decide +kernel)) ggL_agrees_L_next
set_option maxRecDepth 20000 in
theorem ggL_agrees_X5_next : GoodIn wsL_agrees wsX5_next := goodIn_r _ [94, 95, 96, 97, 98, 99, 100, 213, 214, 215, 216, 217, 218, 219, 220, 221, 222, 223, 224, 225, 226, 227, 228, 229, 230, 231, 232, 233, 234, 235] (by decide +kernel) (by decide +kernel)
set_option maxRecDepth 20000 in
theorem gL_agrees_X5_next : GoodIn wsL_agrees (wsV RL 72 RX5 yX5_next wsX5_next) := goodIn_app (goodIn_of _ (by decide +kernel)) ggL_agrees_X5_next
set_option maxRecDepth 20000 in
theorem ggL_agrees_X4_lacks : GoodIn wsL_agrees wsX4_lacks := goodIn_ca (goodIn_r _ [104, 105, 106, 82, 107, 108, 109, 110, 86, 111, 88, 236, 237, 238, 239, 240, 241, 242, 243, 244, 245, 246, 247, 248, 260, 261, 262, 263, 264] (by decide +kernel) (by decide +kernel)) (goodIn_sub (fun _ h => List.mem_cons_of_mem _ (List.mem_append_left _ (List.mem_append_right _ h))) (by decide +kernel))
set_option maxRecDepth 20000 in
theorem gL_agrees_X4_lacks : GoodIn wsL_agrees (wsV RL 76 RX4 yX4_lacks wsX4_lacks) := goodIn_app (goodIn_of _ (by decide +kernel)) ggL_agrees_X4_lacks
set_option maxRecDepth 20000 in
theorem ggL_agrees_X4_cut : GoodIn wsL_agrees wsX4_cut := goodIn_ca (goodIn_r _ [115, 105, 106, 82, 116, 108, 109, 110, 86, 111, 88, 236, 237, 238, 239, 240, 241, 242, 243, 244, 245, 246, 247, 248, 260, 261, 262, 263, 264] (by decide +kernel) (by decide +kernel)) (goodIn_sub (fun _ h => List.mem_cons_of_mem _ (List.mem_append_left _ (List.mem_append_right _ h))) (by decide +kernel))
set_option maxRecDepth 20000 in
theorem gL_agrees_X4_cut : GoodIn wsL_agrees (wsV RL 83 RX4 yX4_cut wsX4_cut) := goodIn_app (goodIn_of _ (by decide +kernel)) ggL_agrees_X4_cut
set_option maxRecDepth 20000 in
theorem ggL_agrees_X5_cutOf : GoodIn wsL_agrees wsX5_cutOf := goodIn_r _ [120, 121, 96, 97, 98, 122, 123, 124, 61, 125, 126, 127, 128, 129, 213, 214, 215, 216, 217, 218, 219, 220, 221, 222, 223, 224, 225, 226, 227, 228, 229, 230, 231, 232, 233, 234, 235] (by decide +kernel) (by decide +kernel)
set_option maxRecDepth 20000 in
theorem gL_agrees_X5_cutOf : GoodIn wsL_agrees (wsV RL 88 RX5 yX5_cutOf wsX5_cutOf) := goodIn_app (goodIn_of _ (by decide +kernel)) ggL_agrees_X5_cutOf
set_option maxRecDepth 20000 in
theorem ggL_agrees_X4_trim : GoodIn wsL_agrees wsX4_trim := goodIn_ca (goodIn_r _ [133, 105, 106, 134, 82, 135, 73, 74, 75, 4, 76, 77, 136, 137, 138, 139, 140, 141, 127, 128, 129, 142, 143, 144, 145, 146, 147, 148, 149, 150, 151, 152, 109, 110, 86, 111, 88, 153, 154, 155, 156, 157, 158, 159, 160, 161, 162, 163, 164, 165, 166, 167, 168, 169, 170, 171, 172, 173, 174, 236, 237, 238, 239, 240, 241, 242, 243, 244, 245, 246, 247, 248, 265, 266, 267, 268, 269, 270, 271, 272, 260, 261, 262, 263, 264] (by decide +kernel) (by decide +kernel)) (goodIn_sub (fun _ h => List.mem_cons_of_mem _ (List.mem_append_left _ (List.mem_append_right _ h))) (by decide +kernel))
set_option maxRecDepth 20000 in
theorem gL_agrees_X4_trim : GoodIn wsL_agrees (wsV RL 92 RX4 yX4_trim wsX4_trim) := goodIn_app (goodIn_of _ (by decide +kernel)) ggL_agrees_X4_trim
set_option maxRecDepth 20000 in
theorem ggL_agrees_X5_sumOf : GoodIn wsL_agrees wsX5_sumOf := goodIn_r _ [178, 96, 122, 213, 214, 215, 216, 217, 218, 219, 220, 221, 222, 223, 224, 225, 226, 227, 228, 229, 230, 231, 232, 233, 234, 235] (by decide +kernel) (by decide +kernel)
set_option maxRecDepth 20000 in
theorem gL_agrees_X5_sumOf : GoodIn wsL_agrees (wsV RL 98 RX5 yX5_sumOf wsX5_sumOf) := goodIn_app (goodIn_of _ (by decide +kernel)) ggL_agrees_X5_sumOf
set_option maxRecDepth 20000 in
theorem ggL_agrees_X4_made : GoodIn wsL_agrees wsX4_made := goodIn_ca (goodIn_r _ [182, 105, 106, 6, 183, 184, 185, 186, 33, 187, 35, 236, 237, 238, 239, 240, 241, 242, 243, 244, 245, 246, 247, 248, 249, 250, 251, 252, 253, 254, 255, 256, 257, 258, 259] (by decide +kernel) (by decide +kernel)) (goodIn_sub (fun _ h => List.mem_cons_of_mem _ (List.mem_append_left _ (List.mem_append_right _ h))) (by decide +kernel))
set_option maxRecDepth 20000 in
theorem gL_agrees_X4_made : GoodIn wsL_agrees (wsV RL 102 RX4 yX4_made wsX4_made) := goodIn_app (goodIn_of _ (by decide +kernel)) ggL_agrees_X4_made
set_option maxRecDepth 20000 in
theorem ggL_agrees_X4_grade : GoodIn wsL_agrees wsX4_grade := goodIn_ca (goodIn_r _ [191, 68, 69, 70, 73, 74, 75, 4, 76, 77, 236, 237, 238, 239, 240, 241, 242, 243, 244, 245, 246, 247, 248] (by decide +kernel) (by decide +kernel)) (goodIn_sub (fun _ h => List.mem_cons_of_mem _ (List.mem_append_left _ (List.mem_append_left _ (List.mem_append_right _ h)))) (by decide +kernel))
set_option maxRecDepth 20000 in
theorem gL_agrees_X4_grade : GoodIn wsL_agrees (wsV RL 113 RX4 yX4_grade wsX4_grade) := goodIn_app (goodIn_of _ (by decide +kernel)) ggL_agrees_X4_grade
set_option maxRecDepth 20000 in
theorem ggL_agrees_X4_mass : GoodIn wsL_agrees wsX4_mass := goodIn_ca (goodIn_r _ [195, 105, 106, 73, 74, 75, 4, 76, 77, 196, 197, 198, 199, 71, 135, 236, 237, 238, 239, 240, 241, 242, 243, 244, 245, 246, 247, 248] (by decide +kernel) (by decide +kernel)) (goodIn_sub (fun _ h => List.mem_cons_of_mem _ (List.mem_append_left _ (List.mem_append_right _ h))) (by decide +kernel))
set_option maxRecDepth 20000 in
theorem gL_agrees_X4_mass : GoodIn wsL_agrees (wsV RL 116 RX4 yX4_mass wsX4_mass) := goodIn_app (goodIn_of _ (by decide +kernel)) ggL_agrees_X4_mass
set_option maxRecDepth 20000 in
theorem ggL_agrees_X4_paperShare : GoodIn wsL_agrees wsX4_paperShare := goodIn_ca (goodIn_r _ [203, 204, 205, 6, 206, 48, 236, 237, 238, 239, 240, 241, 242, 243, 244, 245, 246, 247, 248, 249, 250, 251, 252, 253, 254, 255, 256, 257, 258, 259] (by decide +kernel) (by decide +kernel)) (goodIn_sub (fun _ h => List.mem_cons_of_mem _ (List.mem_append_right _ h)) (by decide +kernel))
set_option maxRecDepth 20000 in
theorem gL_agrees_X4_paperShare : GoodIn wsL_agrees (wsV RL 124 RX4 yX4_paperShare wsX4_paperShare) := goodIn_app (goodIn_of _ (by decide +kernel)) ggL_agrees_X4_paperShare
set_option maxRecDepth 20000 in
theorem ggL_agrees_X4_meanTrim : GoodIn wsL_agrees wsX4_meanTrim := goodIn_ca (goodIn_r _ [210, 204, 205, 6, 211, 212, 236, 237, 238, 239, 240, 241, 242, 243, 244, 245, 246, 247, 248, 249, 250, 251, 252, 253, 254, 255, 256, 257, 258, 259] (by decide +kernel) (by decide +kernel)) (goodIn_sub (fun _ h => List.mem_cons_of_mem _ (List.mem_append_right _ h)) (by decide +kernel))
set_option maxRecDepth 20000 in
theorem gL_agrees_X4_meanTrim : GoodIn wsL_agrees (wsV RL 131 RX4 yX4_meanTrim wsX4_meanTrim) := goodIn_app (goodIn_of _ (by decide +kernel)) ggL_agrees_X4_meanTrim
theorem dL_agrees_0 : decode cL_agrees 0 = .ok (.aload_n 0, 1) := by decide +kernel
theorem dL_agrees_1 : decode cL_agrees 1 = .ok (.invokevirtual 23, 3) := by decide +kernel
theorem dL_agrees_4 : decode cL_agrees 4 = .ok (.aload_n 1, 1) := by decide +kernel
theorem dL_agrees_5 : decode cL_agrees 5 = .ok (.getfield 26, 3) := by decide +kernel
theorem dL_agrees_8 : decode cL_agrees 8 = .ok (.if_icmp .ne 99, 3) := by decide +kernel
theorem dL_agrees_11 : decode cL_agrees 11 = .ok (.aload_n 0, 1) := by decide +kernel
theorem dL_agrees_12 : decode cL_agrees 12 = .ok (.invokevirtual 31, 3) := by decide +kernel
theorem dL_agrees_15 : decode cL_agrees 15 = .ok (.aload_n 1, 1) := by decide +kernel
theorem dL_agrees_16 : decode cL_agrees 16 = .ok (.getfield 34, 3) := by decide +kernel
theorem dL_agrees_19 : decode cL_agrees 19 = .ok (.if_icmp .ne 88, 3) := by decide +kernel
theorem dL_agrees_22 : decode cL_agrees 22 = .ok (.aload_n 0, 1) := by decide +kernel
theorem dL_agrees_23 : decode cL_agrees 23 = .ok (.invokevirtual 36, 3) := by decide +kernel
theorem dL_agrees_26 : decode cL_agrees 26 = .ok (.aload_n 1, 1) := by decide +kernel
theorem dL_agrees_27 : decode cL_agrees 27 = .ok (.invokevirtual 39, 3) := by decide +kernel
theorem dL_agrees_30 : decode cL_agrees 30 = .ok (.if_icmp .ne 77, 3) := by decide +kernel
theorem dL_agrees_33 : decode cL_agrees 33 = .ok (.aload_n 0, 1) := by decide +kernel
theorem dL_agrees_34 : decode cL_agrees 34 = .ok (.invokevirtual 40, 3) := by decide +kernel
theorem dL_agrees_37 : decode cL_agrees 37 = .ok (.aload_n 1, 1) := by decide +kernel
theorem dL_agrees_38 : decode cL_agrees 38 = .ok (.invokevirtual 39, 3) := by decide +kernel
theorem dL_agrees_41 : decode cL_agrees 41 = .ok (.if_icmp .ne 66, 3) := by decide +kernel
theorem dL_agrees_44 : decode cL_agrees 44 = .ok (.aload_n 0, 1) := by decide +kernel
theorem dL_agrees_45 : decode cL_agrees 45 = .ok (.invokevirtual 43, 3) := by decide +kernel
theorem dL_agrees_48 : decode cL_agrees 48 = .ok (.aload_n 1, 1) := by decide +kernel
theorem dL_agrees_49 : decode cL_agrees 49 = .ok (.getfield 47, 3) := by decide +kernel
theorem dL_agrees_52 : decode cL_agrees 52 = .ok (.lcmp, 1) := by decide +kernel
theorem dL_agrees_53 : decode cL_agrees 53 = .ok (.ifCond .ne 54, 3) := by decide +kernel
theorem dL_agrees_56 : decode cL_agrees 56 = .ok (.aload_n 0, 1) := by decide +kernel
theorem dL_agrees_57 : decode cL_agrees 57 = .ok (.invokevirtual 51, 3) := by decide +kernel
theorem dL_agrees_60 : decode cL_agrees 60 = .ok (.aload_n 1, 1) := by decide +kernel
theorem dL_agrees_61 : decode cL_agrees 61 = .ok (.getfield 54, 3) := by decide +kernel
theorem dL_agrees_64 : decode cL_agrees 64 = .ok (.lcmp, 1) := by decide +kernel
theorem dL_agrees_65 : decode cL_agrees 65 = .ok (.ifCond .ne 42, 3) := by decide +kernel
theorem dL_agrees_68 : decode cL_agrees 68 = .ok (.aload_n 0, 1) := by decide +kernel
theorem dL_agrees_69 : decode cL_agrees 69 = .ok (.invokevirtual 56, 3) := by decide +kernel
theorem dL_agrees_72 : decode cL_agrees 72 = .ok (.aload_n 1, 1) := by decide +kernel
theorem dL_agrees_73 : decode cL_agrees 73 = .ok (.getfield 59, 3) := by decide +kernel
theorem dL_agrees_76 : decode cL_agrees 76 = .ok (.lcmp, 1) := by decide +kernel
theorem dL_agrees_77 : decode cL_agrees 77 = .ok (.ifCond .ne 30, 3) := by decide +kernel
theorem dL_agrees_80 : decode cL_agrees 80 = .ok (.aload_n 0, 1) := by decide +kernel
theorem dL_agrees_81 : decode cL_agrees 81 = .ok (.invokevirtual 61, 3) := by decide +kernel
theorem dL_agrees_84 : decode cL_agrees 84 = .ok (.aload_n 1, 1) := by decide +kernel
theorem dL_agrees_85 : decode cL_agrees 85 = .ok (.getfield 64, 3) := by decide +kernel
theorem dL_agrees_88 : decode cL_agrees 88 = .ok (.lcmp, 1) := by decide +kernel
theorem dL_agrees_89 : decode cL_agrees 89 = .ok (.ifCond .ne 18, 3) := by decide +kernel
theorem dL_agrees_92 : decode cL_agrees 92 = .ok (.aload_n 0, 1) := by decide +kernel
theorem dL_agrees_93 : decode cL_agrees 93 = .ok (.invokestatic 67, 3) := by decide +kernel
theorem dL_agrees_96 : decode cL_agrees 96 = .ok (.aload_n 1, 1) := by decide +kernel
theorem dL_agrees_97 : decode cL_agrees 97 = .ok (.invokevirtual 72, 3) := by decide +kernel
theorem dL_agrees_100 : decode cL_agrees 100 = .ok (.if_icmp .ne 7, 3) := by decide +kernel
theorem dL_agrees_103 : decode cL_agrees 103 = .ok (.iconst 1, 1) := by decide +kernel
theorem dL_agrees_104 : decode cL_agrees 104 = .ok (.goto 4, 3) := by decide +kernel
theorem dL_agrees_107 : decode cL_agrees 107 = .ok (.iconst 0, 1) := by decide +kernel
theorem dL_agrees_108 : decode cL_agrees 108 = .ok (.istore_n 2, 1) := by decide +kernel
theorem dL_agrees_109 : decode cL_agrees 109 = .ok (.iconst 0, 1) := by decide +kernel
theorem dL_agrees_110 : decode cL_agrees 110 = .ok (.istore_n 3, 1) := by decide +kernel
theorem dL_agrees_111 : decode cL_agrees 111 = .ok (.iload_n 3, 1) := by decide +kernel
theorem dL_agrees_112 : decode cL_agrees 112 = .ok (.aload_n 1, 1) := by decide +kernel
theorem dL_agrees_113 : decode cL_agrees 113 = .ok (.getfield 73, 3) := by decide +kernel
theorem dL_agrees_116 : decode cL_agrees 116 = .ok (.if_icmp .ge 47, 3) := by decide +kernel
theorem dL_agrees_119 : decode cL_agrees 119 = .ok (.iload_n 2, 1) := by decide +kernel
theorem dL_agrees_120 : decode cL_agrees 120 = .ok (.ifCond .eq 43, 3) := by decide +kernel
theorem dL_agrees_123 : decode cL_agrees 123 = .ok (.aload_n 0, 1) := by decide +kernel
theorem dL_agrees_124 : decode cL_agrees 124 = .ok (.iload_n 3, 1) := by decide +kernel
theorem dL_agrees_125 : decode cL_agrees 125 = .ok (.invokevirtual 76, 3) := by decide +kernel
theorem dL_agrees_128 : decode cL_agrees 128 = .ok (.aload_n 1, 1) := by decide +kernel
theorem dL_agrees_129 : decode cL_agrees 129 = .ok (.getfield 80, 3) := by decide +kernel
theorem dL_agrees_132 : decode cL_agrees 132 = .ok (.iload_n 3, 1) := by decide +kernel
theorem dL_agrees_133 : decode cL_agrees 133 = .ok (.iaload, 1) := by decide +kernel
theorem dL_agrees_134 : decode cL_agrees 134 = .ok (.if_icmp .ne 21, 3) := by decide +kernel
theorem dL_agrees_137 : decode cL_agrees 137 = .ok (.aload_n 0, 1) := by decide +kernel
theorem dL_agrees_138 : decode cL_agrees 138 = .ok (.iload_n 3, 1) := by decide +kernel
theorem dL_agrees_139 : decode cL_agrees 139 = .ok (.invokevirtual 83, 3) := by decide +kernel
theorem dL_agrees_142 : decode cL_agrees 142 = .ok (.aload_n 1, 1) := by decide +kernel
theorem dL_agrees_143 : decode cL_agrees 143 = .ok (.getfield 86, 3) := by decide +kernel
theorem dL_agrees_146 : decode cL_agrees 146 = .ok (.iload_n 3, 1) := by decide +kernel
theorem dL_agrees_147 : decode cL_agrees 147 = .ok (.iaload, 1) := by decide +kernel
theorem dL_agrees_148 : decode cL_agrees 148 = .ok (.if_icmp .ne 7, 3) := by decide +kernel
theorem dL_agrees_151 : decode cL_agrees 151 = .ok (.iconst 1, 1) := by decide +kernel
theorem dL_agrees_152 : decode cL_agrees 152 = .ok (.goto 4, 3) := by decide +kernel
theorem dL_agrees_155 : decode cL_agrees 155 = .ok (.iconst 0, 1) := by decide +kernel
theorem dL_agrees_156 : decode cL_agrees 156 = .ok (.istore_n 2, 1) := by decide +kernel
theorem dL_agrees_157 : decode cL_agrees 157 = .ok (.iinc 3 1, 3) := by decide +kernel
theorem dL_agrees_160 : decode cL_agrees 160 = .ok (.goto (-49), 3) := by decide +kernel
theorem dL_agrees_163 : decode cL_agrees 163 = .ok (.aload_n 1, 1) := by decide +kernel
theorem dL_agrees_164 : decode cL_agrees 164 = .ok (.iconst 0, 1) := by decide +kernel
theorem dL_agrees_165 : decode cL_agrees 165 = .ok (.invokevirtual 88, 3) := by decide +kernel
theorem dL_agrees_168 : decode cL_agrees 168 = .ok (.astore_n 3, 1) := by decide +kernel
theorem dL_agrees_169 : decode cL_agrees 169 = .ok (.iload_n 2, 1) := by decide +kernel
theorem dL_agrees_170 : decode cL_agrees 170 = .ok (.ifCond .eq 95, 3) := by decide +kernel
theorem dL_agrees_173 : decode cL_agrees 173 = .ok (.aload_n 0, 1) := by decide +kernel
theorem dL_agrees_174 : decode cL_agrees 174 = .ok (.iconst 0, 1) := by decide +kernel
theorem dL_agrees_175 : decode cL_agrees 175 = .ok (.invokevirtual 92, 3) := by decide +kernel
theorem dL_agrees_178 : decode cL_agrees 178 = .ok (.aload_n 1, 1) := by decide +kernel
theorem dL_agrees_179 : decode cL_agrees 179 = .ok (.getfield 95, 3) := by decide +kernel
theorem dL_agrees_182 : decode cL_agrees 182 = .ok (.aload_n 1, 1) := by decide +kernel
theorem dL_agrees_183 : decode cL_agrees 183 = .ok (.aload_n 3, 1) := by decide +kernel
theorem dL_agrees_184 : decode cL_agrees 184 = .ok (.invokevirtual 98, 3) := by decide +kernel
theorem dL_agrees_187 : decode cL_agrees 187 = .ok (.isub, 1) := by decide +kernel
theorem dL_agrees_188 : decode cL_agrees 188 = .ok (.if_icmp .ne 77, 3) := by decide +kernel
theorem dL_agrees_191 : decode cL_agrees 191 = .ok (.aload_n 1, 1) := by decide +kernel
theorem dL_agrees_192 : decode cL_agrees 192 = .ok (.getfield 26, 3) := by decide +kernel
theorem dL_agrees_195 : decode cL_agrees 195 = .ok (.ifCond .eq 20, 3) := by decide +kernel
theorem dL_agrees_198 : decode cL_agrees 198 = .ok (.aload_n 0, 1) := by decide +kernel
theorem dL_agrees_199 : decode cL_agrees 199 = .ok (.aload_n 1, 1) := by decide +kernel
theorem dL_agrees_200 : decode cL_agrees 200 = .ok (.getfield 26, 3) := by decide +kernel
theorem dL_agrees_203 : decode cL_agrees 203 = .ok (.iconst 1, 1) := by decide +kernel
theorem dL_agrees_204 : decode cL_agrees 204 = .ok (.isub, 1) := by decide +kernel
theorem dL_agrees_205 : decode cL_agrees 205 = .ok (.invokevirtual 102, 3) := by decide +kernel
theorem dL_agrees_208 : decode cL_agrees 208 = .ok (.aload_n 1, 1) := by decide +kernel
theorem dL_agrees_209 : decode cL_agrees 209 = .ok (.getfield 106, 3) := by decide +kernel
theorem dL_agrees_212 : decode cL_agrees 212 = .ok (.if_icmp .ne 53, 3) := by decide +kernel
theorem dL_agrees_215 : decode cL_agrees 215 = .ok (.aload_n 1, 1) := by decide +kernel
theorem dL_agrees_216 : decode cL_agrees 216 = .ok (.getfield 110, 3) := by decide +kernel
theorem dL_agrees_219 : decode cL_agrees 219 = .ok (.ifCond .lt 42, 3) := by decide +kernel
theorem dL_agrees_222 : decode cL_agrees 222 = .ok (.aload_n 0, 1) := by decide +kernel
theorem dL_agrees_223 : decode cL_agrees 223 = .ok (.invokevirtual 113, 3) := by decide +kernel
theorem dL_agrees_226 : decode cL_agrees 226 = .ok (.aload_n 1, 1) := by decide +kernel
theorem dL_agrees_227 : decode cL_agrees 227 = .ok (.getfield 110, 3) := by decide +kernel
theorem dL_agrees_230 : decode cL_agrees 230 = .ok (.if_icmp .ne 35, 3) := by decide +kernel
theorem dL_agrees_233 : decode cL_agrees 233 = .ok (.aload_n 0, 1) := by decide +kernel
theorem dL_agrees_234 : decode cL_agrees 234 = .ok (.aload_n 1, 1) := by decide +kernel
theorem dL_agrees_235 : decode cL_agrees 235 = .ok (.getfield 110, 3) := by decide +kernel
theorem dL_agrees_238 : decode cL_agrees 238 = .ok (.invokevirtual 116, 3) := by decide +kernel
theorem dL_agrees_241 : decode cL_agrees 241 = .ok (.aload_n 1, 1) := by decide +kernel
theorem dL_agrees_242 : decode cL_agrees 242 = .ok (.getfield 119, 3) := by decide +kernel
theorem dL_agrees_245 : decode cL_agrees 245 = .ok (.aload_n 1, 1) := by decide +kernel
theorem dL_agrees_246 : decode cL_agrees 246 = .ok (.getfield 110, 3) := by decide +kernel
theorem dL_agrees_249 : decode cL_agrees 249 = .ok (.iaload, 1) := by decide +kernel
theorem dL_agrees_250 : decode cL_agrees 250 = .ok (.aload_n 1, 1) := by decide +kernel
theorem dL_agrees_251 : decode cL_agrees 251 = .ok (.getfield 95, 3) := by decide +kernel
theorem dL_agrees_254 : decode cL_agrees 254 = .ok (.imul, 1) := by decide +kernel
theorem dL_agrees_255 : decode cL_agrees 255 = .ok (.bipush 10, 2) := by decide +kernel
theorem dL_agrees_257 : decode cL_agrees 257 = .ok (.idiv, 1) := by decide +kernel
theorem dL_agrees_258 : decode cL_agrees 258 = .ok (.if_icmp .ne 7, 3) := by decide +kernel
theorem dL_agrees_261 : decode cL_agrees 261 = .ok (.iconst 1, 1) := by decide +kernel
theorem dL_agrees_262 : decode cL_agrees 262 = .ok (.goto 4, 3) := by decide +kernel
theorem dL_agrees_265 : decode cL_agrees 265 = .ok (.iconst 0, 1) := by decide +kernel
theorem dL_agrees_266 : decode cL_agrees 266 = .ok (.istore_n 2, 1) := by decide +kernel
theorem dL_agrees_267 : decode cL_agrees 267 = .ok (.iload_n 2, 1) := by decide +kernel
theorem dL_agrees_268 : decode cL_agrees 268 = .ok (.ifCond .eq 61, 3) := by decide +kernel
end
section
theorem dL_agrees_271 : decode cL_agrees 271 = .ok (.aload_n 1, 1) := by decide +kernel
theorem dL_agrees_272 : decode cL_agrees 272 = .ok (.getfield 122, 3) := by decide +kernel
theorem dL_agrees_275 : decode cL_agrees 275 = .ok (.lconst 0, 1) := by decide +kernel
theorem dL_agrees_276 : decode cL_agrees 276 = .ok (.lcmp, 1) := by decide +kernel
theorem dL_agrees_277 : decode cL_agrees 277 = .ok (.ifCond .eq 22, 3) := by decide +kernel
theorem dL_agrees_280 : decode cL_agrees 280 = .ok (.aload_n 0, 1) := by decide +kernel
theorem dL_agrees_281 : decode cL_agrees 281 = .ok (.invokevirtual 124, 3) := by decide +kernel
theorem dL_agrees_284 : decode cL_agrees 284 = .ok (.aload_n 1, 1) := by decide +kernel
theorem dL_agrees_285 : decode cL_agrees 285 = .ok (.getfield 54, 3) := by decide +kernel
theorem dL_agrees_288 : decode cL_agrees 288 = .ok (.l2f, 1) := by decide +kernel
theorem dL_agrees_289 : decode cL_agrees 289 = .ok (.aload_n 1, 1) := by decide +kernel
theorem dL_agrees_290 : decode cL_agrees 290 = .ok (.getfield 122, 3) := by decide +kernel
theorem dL_agrees_293 : decode cL_agrees 293 = .ok (.l2f, 1) := by decide +kernel
theorem dL_agrees_294 : decode cL_agrees 294 = .ok (.fdiv, 1) := by decide +kernel
theorem dL_agrees_295 : decode cL_agrees 295 = .ok (.fcmp .l, 1) := by decide +kernel
theorem dL_agrees_296 : decode cL_agrees 296 = .ok (.ifCond .ne 33, 3) := by decide +kernel
theorem dL_agrees_299 : decode cL_agrees 299 = .ok (.aload_n 1, 1) := by decide +kernel
theorem dL_agrees_300 : decode cL_agrees 300 = .ok (.getfield 128, 3) := by decide +kernel
theorem dL_agrees_303 : decode cL_agrees 303 = .ok (.ifCond .eq 22, 3) := by decide +kernel
theorem dL_agrees_306 : decode cL_agrees 306 = .ok (.aload_n 0, 1) := by decide +kernel
theorem dL_agrees_307 : decode cL_agrees 307 = .ok (.invokevirtual 131, 3) := by decide +kernel
theorem dL_agrees_310 : decode cL_agrees 310 = .ok (.aload_n 1, 1) := by decide +kernel
theorem dL_agrees_311 : decode cL_agrees 311 = .ok (.getfield 135, 3) := by decide +kernel
theorem dL_agrees_314 : decode cL_agrees 314 = .ok (.i2d, 1) := by decide +kernel
theorem dL_agrees_315 : decode cL_agrees 315 = .ok (.aload_n 1, 1) := by decide +kernel
theorem dL_agrees_316 : decode cL_agrees 316 = .ok (.getfield 128, 3) := by decide +kernel
theorem dL_agrees_319 : decode cL_agrees 319 = .ok (.i2d, 1) := by decide +kernel
theorem dL_agrees_320 : decode cL_agrees 320 = .ok (.ddiv, 1) := by decide +kernel
theorem dL_agrees_321 : decode cL_agrees 321 = .ok (.dcmp .l, 1) := by decide +kernel
theorem dL_agrees_322 : decode cL_agrees 322 = .ok (.ifCond .ne 7, 3) := by decide +kernel
theorem dL_agrees_325 : decode cL_agrees 325 = .ok (.iconst 1, 1) := by decide +kernel
theorem dL_agrees_326 : decode cL_agrees 326 = .ok (.goto 4, 3) := by decide +kernel
theorem dL_agrees_329 : decode cL_agrees 329 = .ok (.iconst 0, 1) := by decide +kernel
theorem dL_agrees_330 : decode cL_agrees 330 = .ok (.ireturn, 1) := by decide +kernel
set_option maxRecDepth 20000 in
theorem ggL_acts_L_low : GoodIn wsL_acts wsL_low := goodIn_r _ [14, 15] (by decide +kernel) (by decide +kernel)
set_option maxRecDepth 20000 in
theorem gL_acts_L_low : GoodIn wsL_acts (va_wsS RL 138 yL_low wsL_low) := goodIn_app (goodIn_of _ (by decide +kernel)) ggL_acts_L_low
set_option maxRecDepth 20000 in
theorem ggL_acts_X4_order : GoodIn wsL_acts wsX4_order := goodIn_ca (goodIn_ca (goodIn_ca (goodIn_ca (goodIn_r _ [20, 21, 22, 23, 24, 25, 26, 27, 28, 29, 30, 31, 32, 33, 19, 34, 35, 36, 37, 38, 39, 40, 41, 42, 43, 44, 45, 46, 47, 48, 49, 50, 51, 52, 53, 260, 261, 262, 263, 264, 265, 266, 267, 268, 269, 270, 271, 272, 273, 274, 275, 276, 277] (by decide +kernel) (by decide +kernel)) (goodIn_sub (fun _ h => List.mem_cons_of_mem _ (List.mem_append_left _ (List.mem_append_left _ (List.mem_append_left _ (List.mem_append_right _ h))))) (by decide +kernel))) (goodIn_sub (fun _ h => List.mem_cons_of_mem _ (List.mem_append_left _ (List.mem_append_left _ (List.mem_append_right _ h)))) (by decide +kernel))) (goodIn_sub (fun _ h => List.mem_cons_of_mem _ (List.mem_append_left _ (List.mem_append_right _ h))) (by decide +kernel))) (goodIn_sub (fun _ h => List.mem_cons_of_mem _ (List.mem_append_right _ h)) (by decide +kernel))
set_option maxRecDepth 20000 in
theorem gL_acts_X4_order : GoodIn wsL_acts (wsV RL 146 RX4 yX4_order wsX4_order) := goodIn_app (goodIn_of _ (by decide +kernel)) ggL_acts_X4_order
set_option maxRecDepth 20000 in
theorem ggL_acts_X4_change : GoodIn wsL_acts wsX4_change := goodIn_ca (goodIn_ca (goodIn_ca (goodIn_r _ [57, 21, 22, 23, 24, 27, 28, 58, 59, 60, 61, 6, 3, 7, 62, 31, 32, 33, 19, 34, 35, 260, 261, 262, 263, 264, 265, 266, 267, 268, 269, 270, 271, 272] (by decide +kernel) (by decide +kernel)) (goodIn_sub (fun _ h => List.mem_cons_of_mem _ (List.mem_append_left _ (List.mem_append_left _ (List.mem_append_left _ (List.mem_append_right _ h))))) (by decide +kernel))) (goodIn_sub (fun _ h => List.mem_cons_of_mem _ (List.mem_append_left _ (List.mem_append_left _ (List.mem_append_right _ h)))) (by decide +kernel))) (goodIn_sub (fun _ h => List.mem_cons_of_mem _ (List.mem_append_right _ h)) (by decide +kernel))
set_option maxRecDepth 20000 in
theorem gL_acts_X4_change : GoodIn wsL_acts (wsV RL 157 RX4 yX4_change wsX4_change) := goodIn_app (goodIn_of _ (by decide +kernel)) ggL_acts_X4_change
set_option maxRecDepth 20000 in
theorem ggL_acts_X4_setShare : GoodIn wsL_acts wsX4_setShare := goodIn_ca (goodIn_r _ [66, 23, 24, 67, 36, 37, 19, 38, 260, 261, 262, 263, 264, 265, 266, 267, 268, 269, 270, 271, 272] (by decide +kernel) (by decide +kernel)) (goodIn_sub (fun _ h => List.mem_cons_of_mem _ (List.mem_append_left _ (List.mem_append_left _ (List.mem_append_right _ h)))) (by decide +kernel))
set_option maxRecDepth 20000 in
theorem gL_acts_X4_setShare : GoodIn wsL_acts (wsV RL 163 RX4 yX4_setShare wsX4_setShare) := goodIn_app (goodIn_of _ (by decide +kernel)) ggL_acts_X4_setShare
set_option maxRecDepth 20000 in
theorem ggL_acts_X4_setContract : GoodIn wsL_acts wsX4_setContract := goodIn_ca (goodIn_r _ [71, 23, 24, 72, 73, 74, 75, 36, 37, 19, 38, 260, 261, 262, 263, 264, 265, 266, 267, 268, 269, 270, 271, 272, 278, 279, 280] (by decide +kernel) (by decide +kernel)) (goodIn_sub (fun _ h => List.mem_cons_of_mem _ (List.mem_append_left _ (List.mem_append_left _ (List.mem_append_right _ h)))) (by decide +kernel))
set_option maxRecDepth 20000 in
theorem gL_acts_X4_setContract : GoodIn wsL_acts (wsV RL 175 RX4 yX4_setContract wsX4_setContract) := goodIn_app (goodIn_of _ (by decide +kernel)) ggL_acts_X4_setContract
set_option maxRecDepth 20000 in
theorem ggL_acts_X4_setWidth : GoodIn wsL_acts wsX4_setWidth := goodIn_ca (goodIn_ca (goodIn_r _ [79, 23, 24, 27, 28, 30, 29, 36, 37, 19, 38, 80, 81, 82, 42, 83, 44, 52, 50, 84, 9, 3, 10, 260, 261, 262, 263, 264, 265, 266, 267, 268, 269, 270, 271, 272, 273, 274, 275, 276, 277] (by decide +kernel) (by decide +kernel)) (goodIn_sub (fun _ h => List.mem_cons_of_mem _ (List.mem_append_left _ (List.mem_append_left _ (List.mem_append_right _ h)))) (by decide +kernel))) (goodIn_sub (fun _ h => List.mem_cons_of_mem _ (List.mem_append_right _ h)) (by decide +kernel))
set_option maxRecDepth 20000 in
theorem gL_acts_X4_setWidth : GoodIn wsL_acts (wsV RL 181 RX4 yX4_setWidth wsX4_setWidth) := goodIn_app (goodIn_of _ (by decide +kernel)) ggL_acts_X4_setWidth
set_option maxRecDepth 20000 in
theorem ggL_acts_X5_passes : GoodIn wsL_acts wsX5_passes := goodIn_r _ [89, 90, 91, 92, 93, 94, 95, 96, 97, 98, 99, 100, 101, 102, 88, 103, 104, 105, 106, 2, 3, 4, 107, 108, 109, 110, 111, 112, 113, 114, 9, 10, 115, 116, 117, 118, 119, 120, 121, 122, 123, 124, 125, 126, 127, 13, 128, 1, 129, 130, 131, 132, 237, 238, 239, 240, 241, 242, 243, 244, 245, 246, 247, 248, 249, 250, 251, 252, 253, 254, 255, 256, 257, 258, 259] (by decide +kernel) (by decide +kernel)
set_option maxRecDepth 20000 in
theorem gL_acts_X5_passes : GoodIn wsL_acts (wsV RL 184 RX5 yX5_passes wsX5_passes) := goodIn_app (goodIn_of _ (by decide +kernel)) ggL_acts_X5_passes
set_option maxRecDepth 20000 in
theorem ggL_acts_X4_pass : GoodIn wsL_acts wsX4_pass := goodIn_ca (goodIn_ca (goodIn_r _ [136, 23, 24, 27, 28, 137, 138, 36, 37, 19, 38, 139, 140, 141, 142, 58, 59, 143, 30, 29, 144, 31, 32, 33, 34, 35, 145, 146, 147, 148, 149, 150, 151, 152, 153, 154, 155, 156, 157, 158, 159, 160, 161, 162, 163, 164, 165, 60, 166, 167, 168, 169, 170, 67, 171, 2, 3, 4, 172, 173, 72, 174, 175, 176, 177, 178, 179, 180, 181, 182, 183, 184, 185, 186, 187, 188, 189, 190, 9, 10, 191, 192, 193, 194, 195, 196, 197, 198, 199, 200, 42, 201, 44, 202, 203, 204, 205, 206, 207, 208, 209, 210, 211, 212, 213, 214, 215, 216, 217, 218, 219, 220, 221, 222, 223, 224, 225, 226, 227, 228, 229, 230, 231, 232, 233, 234, 235, 236, 51, 52, 260, 261, 262, 263, 264, 265, 266, 267, 268, 269, 270, 271, 272, 281, 282, 283, 284, 285, 286, 287, 288, 289, 290, 291, 292, 293, 294, 295, 296, 297, 298, 299, 278, 279, 280, 273, 274, 275, 276, 277] (by decide +kernel) (by decide +kernel)) (goodIn_sub (fun _ h => List.mem_cons_of_mem _ (List.mem_append_left _ (List.mem_append_left _ (List.mem_append_right _ h)))) (by decide +kernel))) (goodIn_sub (fun _ h => List.mem_cons_of_mem _ (List.mem_append_right _ h)) (by decide +kernel))
set_option maxRecDepth 20000 in
theorem gL_acts_X4_pass : GoodIn wsL_acts (wsV RL 187 RX4 yX4_pass wsX4_pass) := goodIn_app (goodIn_of _ (by decide +kernel)) ggL_acts_X4_pass
theorem dL_acts_0 : decode cL_acts 0 = .ok (.iload_n 2, 1) := by decide +kernel
theorem dL_acts_1 : decode cL_acts 1 = .ok (.bipush 8, 2) := by decide +kernel
theorem dL_acts_3 : decode cL_acts 3 = .ok (.invokestatic 138, 3) := by decide +kernel
theorem dL_acts_6 : decode cL_acts 6 = .ok (.tableswitch 528 0 5 #[38, 38, 216, 334, 369, 438], 38) := by decide +kernel
theorem dL_acts_44 : decode cL_acts 44 = .ok (.iload_n 2, 1) := by decide +kernel
theorem dL_acts_45 : decode cL_acts 45 = .ok (.iconst 3, 1) := by decide +kernel
theorem dL_acts_46 : decode cL_acts 46 = .ok (.ishr, 1) := by decide +kernel
theorem dL_acts_47 : decode cL_acts 47 = .ok (.iconst 3, 1) := by decide +kernel
theorem dL_acts_48 : decode cL_acts 48 = .ok (.invokestatic 138, 3) := by decide +kernel
theorem dL_acts_51 : decode cL_acts 51 = .ok (.istore_n 3, 1) := by decide +kernel
theorem dL_acts_52 : decode cL_acts 52 = .ok (.iconst 0, 1) := by decide +kernel
theorem dL_acts_53 : decode cL_acts 53 = .ok (.istore 4, 2) := by decide +kernel
theorem dL_acts_55 : decode cL_acts 55 = .ok (.iconst 0, 1) := by decide +kernel
theorem dL_acts_56 : decode cL_acts 56 = .ok (.istore 5, 2) := by decide +kernel
theorem dL_acts_58 : decode cL_acts 58 = .ok (.iload 5, 2) := by decide +kernel
theorem dL_acts_60 : decode cL_acts 60 = .ok (.aload_n 1, 1) := by decide +kernel
theorem dL_acts_61 : decode cL_acts 61 = .ok (.getfield 73, 3) := by decide +kernel
theorem dL_acts_64 : decode cL_acts 64 = .ok (.if_icmp .ge 40, 3) := by decide +kernel
theorem dL_acts_67 : decode cL_acts 67 = .ok (.iload 4, 2) := by decide +kernel
theorem dL_acts_69 : decode cL_acts 69 = .ok (.aload_n 1, 1) := by decide +kernel
theorem dL_acts_70 : decode cL_acts 70 = .ok (.getfield 141, 3) := by decide +kernel
theorem dL_acts_73 : decode cL_acts 73 = .ok (.iload 5, 2) := by decide +kernel
theorem dL_acts_75 : decode cL_acts 75 = .ok (.iaload, 1) := by decide +kernel
theorem dL_acts_76 : decode cL_acts 76 = .ok (.iload_n 3, 1) := by decide +kernel
theorem dL_acts_77 : decode cL_acts 77 = .ok (.if_icmp .ne 17, 3) := by decide +kernel
theorem dL_acts_80 : decode cL_acts 80 = .ok (.aload_n 1, 1) := by decide +kernel
theorem dL_acts_81 : decode cL_acts 81 = .ok (.getfield 80, 3) := by decide +kernel
theorem dL_acts_84 : decode cL_acts 84 = .ok (.iload 5, 2) := by decide +kernel
theorem dL_acts_86 : decode cL_acts 86 = .ok (.iaload, 1) := by decide +kernel
theorem dL_acts_87 : decode cL_acts 87 = .ok (.ifCond .le 7, 3) := by decide +kernel
theorem dL_acts_90 : decode cL_acts 90 = .ok (.iconst 1, 1) := by decide +kernel
theorem dL_acts_91 : decode cL_acts 91 = .ok (.goto 4, 3) := by decide +kernel
theorem dL_acts_94 : decode cL_acts 94 = .ok (.iconst 0, 1) := by decide +kernel
theorem dL_acts_95 : decode cL_acts 95 = .ok (.iadd, 1) := by decide +kernel
theorem dL_acts_96 : decode cL_acts 96 = .ok (.istore 4, 2) := by decide +kernel
theorem dL_acts_98 : decode cL_acts 98 = .ok (.iinc 5 1, 3) := by decide +kernel
theorem dL_acts_101 : decode cL_acts 101 = .ok (.goto (-43), 3) := by decide +kernel
theorem dL_acts_104 : decode cL_acts 104 = .ok (.aload_n 1, 1) := by decide +kernel
theorem dL_acts_105 : decode cL_acts 105 = .ok (.getfield 73, 3) := by decide +kernel
theorem dL_acts_108 : decode cL_acts 108 = .ok (.bipush 10, 2) := by decide +kernel
theorem dL_acts_110 : decode cL_acts 110 = .ok (.if_icmp .eq 9, 3) := by decide +kernel
theorem dL_acts_113 : decode cL_acts 113 = .ok (.iload 4, 2) := by decide +kernel
theorem dL_acts_115 : decode cL_acts 115 = .ok (.iconst 3, 1) := by decide +kernel
theorem dL_acts_116 : decode cL_acts 116 = .ok (.if_icmp .ne 5, 3) := by decide +kernel
theorem dL_acts_119 : decode cL_acts 119 = .ok (.iconst 1, 1) := by decide +kernel
theorem dL_acts_120 : decode cL_acts 120 = .ok (.ireturn, 1) := by decide +kernel
theorem dL_acts_121 : decode cL_acts 121 = .ok (.aload_n 1, 1) := by decide +kernel
theorem dL_acts_122 : decode cL_acts 122 = .ok (.getfield 73, 3) := by decide +kernel
theorem dL_acts_125 : decode cL_acts 125 = .ok (.istore 5, 2) := by decide +kernel
theorem dL_acts_127 : decode cL_acts 127 = .ok (.aload_n 1, 1) := by decide +kernel
theorem dL_acts_128 : decode cL_acts 128 = .ok (.getfield 141, 3) := by decide +kernel
theorem dL_acts_131 : decode cL_acts 131 = .ok (.iload 5, 2) := by decide +kernel
theorem dL_acts_133 : decode cL_acts 133 = .ok (.iload_n 3, 1) := by decide +kernel
theorem dL_acts_134 : decode cL_acts 134 = .ok (.iastore, 1) := by decide +kernel
theorem dL_acts_135 : decode cL_acts 135 = .ok (.aload_n 1, 1) := by decide +kernel
theorem dL_acts_136 : decode cL_acts 136 = .ok (.getfield 143, 3) := by decide +kernel
theorem dL_acts_139 : decode cL_acts 139 = .ok (.iload 5, 2) := by decide +kernel
theorem dL_acts_141 : decode cL_acts 141 = .ok (.bipush 20, 2) := by decide +kernel
theorem dL_acts_143 : decode cL_acts 143 = .ok (.iload_n 2, 1) := by decide +kernel
theorem dL_acts_144 : decode cL_acts 144 = .ok (.iconst 5, 1) := by decide +kernel
theorem dL_acts_145 : decode cL_acts 145 = .ok (.ishr, 1) := by decide +kernel
theorem dL_acts_146 : decode cL_acts 146 = .ok (.sipush 400, 3) := by decide +kernel
theorem dL_acts_149 : decode cL_acts 149 = .ok (.aload_n 1, 1) := by decide +kernel
theorem dL_acts_150 : decode cL_acts 150 = .ok (.getfield 95, 3) := by decide +kernel
theorem dL_acts_153 : decode cL_acts 153 = .ok (.invokestatic 9, 3) := by decide +kernel
theorem dL_acts_156 : decode cL_acts 156 = .ok (.bipush 19, 2) := by decide +kernel
theorem dL_acts_158 : decode cL_acts 158 = .ok (.isub, 1) := by decide +kernel
theorem dL_acts_159 : decode cL_acts 159 = .ok (.invokestatic 138, 3) := by decide +kernel
theorem dL_acts_162 : decode cL_acts 162 = .ok (.iadd, 1) := by decide +kernel
theorem dL_acts_163 : decode cL_acts 163 = .ok (.iastore, 1) := by decide +kernel
theorem dL_acts_164 : decode cL_acts 164 = .ok (.aload_n 1, 1) := by decide +kernel
theorem dL_acts_165 : decode cL_acts 165 = .ok (.getfield 80, 3) := by decide +kernel
theorem dL_acts_168 : decode cL_acts 168 = .ok (.iload 5, 2) := by decide +kernel
theorem dL_acts_170 : decode cL_acts 170 = .ok (.iconst 1, 1) := by decide +kernel
theorem dL_acts_171 : decode cL_acts 171 = .ok (.iload_n 2, 1) := by decide +kernel
theorem dL_acts_172 : decode cL_acts 172 = .ok (.bipush 14, 2) := by decide +kernel
theorem dL_acts_174 : decode cL_acts 174 = .ok (.ishr, 1) := by decide +kernel
theorem dL_acts_175 : decode cL_acts 175 = .ok (.bipush 8, 2) := by decide +kernel
theorem dL_acts_177 : decode cL_acts 177 = .ok (.invokestatic 138, 3) := by decide +kernel
theorem dL_acts_180 : decode cL_acts 180 = .ok (.iadd, 1) := by decide +kernel
theorem dL_acts_181 : decode cL_acts 181 = .ok (.iastore, 1) := by decide +kernel
theorem dL_acts_182 : decode cL_acts 182 = .ok (.aload_n 1, 1) := by decide +kernel
theorem dL_acts_183 : decode cL_acts 183 = .ok (.dup, 1) := by decide +kernel
theorem dL_acts_184 : decode cL_acts 184 = .ok (.getfield 73, 3) := by decide +kernel
theorem dL_acts_187 : decode cL_acts 187 = .ok (.iconst 1, 1) := by decide +kernel
theorem dL_acts_188 : decode cL_acts 188 = .ok (.iadd, 1) := by decide +kernel
theorem dL_acts_189 : decode cL_acts 189 = .ok (.putfield 73, 3) := by decide +kernel
theorem dL_acts_192 : decode cL_acts 192 = .ok (.aload_n 0, 1) := by decide +kernel
theorem dL_acts_193 : decode cL_acts 193 = .ok (.iload_n 3, 1) := by decide +kernel
theorem dL_acts_194 : decode cL_acts 194 = .ok (.aload_n 1, 1) := by decide +kernel
theorem dL_acts_195 : decode cL_acts 195 = .ok (.getfield 143, 3) := by decide +kernel
theorem dL_acts_198 : decode cL_acts 198 = .ok (.iload 5, 2) := by decide +kernel
theorem dL_acts_200 : decode cL_acts 200 = .ok (.iaload, 1) := by decide +kernel
theorem dL_acts_201 : decode cL_acts 201 = .ok (.aload_n 1, 1) := by decide +kernel
theorem dL_acts_202 : decode cL_acts 202 = .ok (.getfield 80, 3) := by decide +kernel
theorem dL_acts_205 : decode cL_acts 205 = .ok (.iload 5, 2) := by decide +kernel
theorem dL_acts_207 : decode cL_acts 207 = .ok (.iaload, 1) := by decide +kernel
theorem dL_acts_208 : decode cL_acts 208 = .ok (.invokevirtual 146, 3) := by decide +kernel
theorem dL_acts_211 : decode cL_acts 211 = .ok (.iload 5, 2) := by decide +kernel
theorem dL_acts_213 : decode cL_acts 213 = .ok (.if_icmp .ne 7, 3) := by decide +kernel
theorem dL_acts_216 : decode cL_acts 216 = .ok (.iconst 1, 1) := by decide +kernel
theorem dL_acts_217 : decode cL_acts 217 = .ok (.goto 4, 3) := by decide +kernel
theorem dL_acts_220 : decode cL_acts 220 = .ok (.iconst 0, 1) := by decide +kernel
theorem dL_acts_221 : decode cL_acts 221 = .ok (.ireturn, 1) := by decide +kernel
theorem dL_acts_222 : decode cL_acts 222 = .ok (.iload_n 2, 1) := by decide +kernel
theorem dL_acts_223 : decode cL_acts 223 = .ok (.iconst 3, 1) := by decide +kernel
theorem dL_acts_224 : decode cL_acts 224 = .ok (.ishr, 1) := by decide +kernel
theorem dL_acts_225 : decode cL_acts 225 = .ok (.iconst 3, 1) := by decide +kernel
theorem dL_acts_226 : decode cL_acts 226 = .ok (.invokestatic 138, 3) := by decide +kernel
theorem dL_acts_229 : decode cL_acts 229 = .ok (.istore_n 3, 1) := by decide +kernel
theorem dL_acts_230 : decode cL_acts 230 = .ok (.aload_n 1, 1) := by decide +kernel
theorem dL_acts_231 : decode cL_acts 231 = .ok (.getfield 34, 3) := by decide +kernel
theorem dL_acts_234 : decode cL_acts 234 = .ok (.ifCond .gt 11, 3) := by decide +kernel
theorem dL_acts_237 : decode cL_acts 237 = .ok (.iload_n 3, 1) := by decide +kernel
theorem dL_acts_238 : decode cL_acts 238 = .ok (.aload_n 1, 1) := by decide +kernel
theorem dL_acts_239 : decode cL_acts 239 = .ok (.getfield 110, 3) := by decide +kernel
theorem dL_acts_242 : decode cL_acts 242 = .ok (.if_icmp .ne 5, 3) := by decide +kernel
theorem dL_acts_245 : decode cL_acts 245 = .ok (.iconst 1, 1) := by decide +kernel
theorem dL_acts_246 : decode cL_acts 246 = .ok (.ireturn, 1) := by decide +kernel
theorem dL_acts_247 : decode cL_acts 247 = .ok (.aload_n 1, 1) := by decide +kernel
theorem dL_acts_248 : decode cL_acts 248 = .ok (.iconst 1, 1) := by decide +kernel
theorem dL_acts_249 : decode cL_acts 249 = .ok (.aload_n 1, 1) := by decide +kernel
theorem dL_acts_250 : decode cL_acts 250 = .ok (.getfield 110, 3) := by decide +kernel
theorem dL_acts_253 : decode cL_acts 253 = .ok (.ifCond .ge 7, 3) := by decide +kernel
theorem dL_acts_256 : decode cL_acts 256 = .ok (.iconst 0, 1) := by decide +kernel
theorem dL_acts_257 : decode cL_acts 257 = .ok (.goto 25, 3) := by decide +kernel
theorem dL_acts_260 : decode cL_acts 260 = .ok (.aload_n 1, 1) := by decide +kernel
theorem dL_acts_261 : decode cL_acts 261 = .ok (.getfield 119, 3) := by decide +kernel
theorem dL_acts_264 : decode cL_acts 264 = .ok (.iload_n 3, 1) := by decide +kernel
theorem dL_acts_265 : decode cL_acts 265 = .ok (.iaload, 1) := by decide +kernel
theorem dL_acts_266 : decode cL_acts 266 = .ok (.aload_n 1, 1) := by decide +kernel
theorem dL_acts_267 : decode cL_acts 267 = .ok (.getfield 119, 3) := by decide +kernel
theorem dL_acts_270 : decode cL_acts 270 = .ok (.aload_n 1, 1) := by decide +kernel
theorem dL_acts_271 : decode cL_acts 271 = .ok (.getfield 110, 3) := by decide +kernel
theorem dL_acts_274 : decode cL_acts 274 = .ok (.iaload, 1) := by decide +kernel
theorem dL_acts_275 : decode cL_acts 275 = .ok (.isub, 1) := by decide +kernel
theorem dL_acts_276 : decode cL_acts 276 = .ok (.invokestatic 150, 3) := by decide +kernel
theorem dL_acts_279 : decode cL_acts 279 = .ok (.bipush 40, 2) := by decide +kernel
theorem dL_acts_281 : decode cL_acts 281 = .ok (.idiv, 1) := by decide +kernel
theorem dL_acts_282 : decode cL_acts 282 = .ok (.iadd, 1) := by decide +kernel
theorem dL_acts_283 : decode cL_acts 283 = .ok (.putfield 34, 3) := by decide +kernel
theorem dL_acts_286 : decode cL_acts 286 = .ok (.aload_n 1, 1) := by decide +kernel
theorem dL_acts_287 : decode cL_acts 287 = .ok (.aload_n 1, 1) := by decide +kernel
theorem dL_acts_288 : decode cL_acts 288 = .ok (.getfield 110, 3) := by decide +kernel
theorem dL_acts_291 : decode cL_acts 291 = .ok (.ifCond .ge 10, 3) := by decide +kernel
theorem dL_acts_294 : decode cL_acts 294 = .ok (.aload_n 1, 1) := by decide +kernel
theorem dL_acts_295 : decode cL_acts 295 = .ok (.getfield 153, 3) := by decide +kernel
theorem dL_acts_298 : decode cL_acts 298 = .ok (.goto 16, 3) := by decide +kernel
theorem dL_acts_301 : decode cL_acts 301 = .ok (.iload_n 3, 1) := by decide +kernel
theorem dL_acts_302 : decode cL_acts 302 = .ok (.aload_n 1, 1) := by decide +kernel
theorem dL_acts_303 : decode cL_acts 303 = .ok (.getfield 110, 3) := by decide +kernel
theorem dL_acts_306 : decode cL_acts 306 = .ok (.if_icmp .le 7, 3) := by decide +kernel
theorem dL_acts_309 : decode cL_acts 309 = .ok (.iconst 1, 1) := by decide +kernel
theorem dL_acts_310 : decode cL_acts 310 = .ok (.goto 4, 3) := by decide +kernel
theorem dL_acts_313 : decode cL_acts 313 = .ok (.iconst 0, 1) := by decide +kernel
theorem dL_acts_314 : decode cL_acts 314 = .ok (.putfield 153, 3) := by decide +kernel
theorem dL_acts_317 : decode cL_acts 317 = .ok (.aload_n 1, 1) := by decide +kernel
theorem dL_acts_318 : decode cL_acts 318 = .ok (.iload_n 3, 1) := by decide +kernel
theorem dL_acts_319 : decode cL_acts 319 = .ok (.putfield 110, 3) := by decide +kernel
theorem dL_acts_322 : decode cL_acts 322 = .ok (.aload_n 0, 1) := by decide +kernel
theorem dL_acts_323 : decode cL_acts 323 = .ok (.iload_n 3, 1) := by decide +kernel
theorem dL_acts_324 : decode cL_acts 324 = .ok (.invokevirtual 157, 3) := by decide +kernel
theorem dL_acts_327 : decode cL_acts 327 = .ok (.aload_n 1, 1) := by decide +kernel
theorem dL_acts_328 : decode cL_acts 328 = .ok (.getfield 34, 3) := by decide +kernel
theorem dL_acts_331 : decode cL_acts 331 = .ok (.if_icmp .ne 7, 3) := by decide +kernel
theorem dL_acts_334 : decode cL_acts 334 = .ok (.iconst 1, 1) := by decide +kernel
theorem dL_acts_335 : decode cL_acts 335 = .ok (.goto 4, 3) := by decide +kernel
theorem dL_acts_338 : decode cL_acts 338 = .ok (.iconst 0, 1) := by decide +kernel
theorem dL_acts_339 : decode cL_acts 339 = .ok (.ireturn, 1) := by decide +kernel
theorem dL_acts_340 : decode cL_acts 340 = .ok (.aload_n 1, 1) := by decide +kernel
theorem dL_acts_341 : decode cL_acts 341 = .ok (.getfield 160, 3) := by decide +kernel
theorem dL_acts_344 : decode cL_acts 344 = .ok (.istore_n 3, 1) := by decide +kernel
theorem dL_acts_345 : decode cL_acts 345 = .ok (.aload_n 1, 1) := by decide +kernel
theorem dL_acts_346 : decode cL_acts 346 = .ok (.iload_n 2, 1) := by decide +kernel
theorem dL_acts_347 : decode cL_acts 347 = .ok (.iconst 3, 1) := by decide +kernel
theorem dL_acts_348 : decode cL_acts 348 = .ok (.ishr, 1) := by decide +kernel
theorem dL_acts_349 : decode cL_acts 349 = .ok (.bipush 51, 2) := by decide +kernel
theorem dL_acts_351 : decode cL_acts 351 = .ok (.invokestatic 138, 3) := by decide +kernel
theorem dL_acts_354 : decode cL_acts 354 = .ok (.putfield 160, 3) := by decide +kernel
theorem dL_acts_357 : decode cL_acts 357 = .ok (.aload_n 0, 1) := by decide +kernel
theorem dL_acts_358 : decode cL_acts 358 = .ok (.aload_n 1, 1) := by decide +kernel
theorem dL_acts_359 : decode cL_acts 359 = .ok (.getfield 160, 3) := by decide +kernel
theorem dL_acts_362 : decode cL_acts 362 = .ok (.invokevirtual 163, 3) := by decide +kernel
theorem dL_acts_365 : decode cL_acts 365 = .ok (.iload_n 3, 1) := by decide +kernel
theorem dL_acts_366 : decode cL_acts 366 = .ok (.if_icmp .ne 7, 3) := by decide +kernel
theorem dL_acts_369 : decode cL_acts 369 = .ok (.iconst 1, 1) := by decide +kernel
theorem dL_acts_370 : decode cL_acts 370 = .ok (.goto 4, 3) := by decide +kernel
theorem dL_acts_373 : decode cL_acts 373 = .ok (.iconst 0, 1) := by decide +kernel
theorem dL_acts_374 : decode cL_acts 374 = .ok (.ireturn, 1) := by decide +kernel
theorem dL_acts_375 : decode cL_acts 375 = .ok (.aload_n 1, 1) := by decide +kernel
theorem dL_acts_376 : decode cL_acts 376 = .ok (.getfield 166, 3) := by decide +kernel
theorem dL_acts_379 : decode cL_acts 379 = .ok (.istore_n 3, 1) := by decide +kernel
theorem dL_acts_380 : decode cL_acts 380 = .ok (.aload_n 1, 1) := by decide +kernel
theorem dL_acts_381 : decode cL_acts 381 = .ok (.iload_n 2, 1) := by decide +kernel
theorem dL_acts_382 : decode cL_acts 382 = .ok (.iconst 3, 1) := by decide +kernel
theorem dL_acts_383 : decode cL_acts 383 = .ok (.ishr, 1) := by decide +kernel
theorem dL_acts_384 : decode cL_acts 384 = .ok (.sipush 6000, 3) := by decide +kernel
theorem dL_acts_387 : decode cL_acts 387 = .ok (.invokestatic 138, 3) := by decide +kernel
theorem dL_acts_390 : decode cL_acts 390 = .ok (.putfield 166, 3) := by decide +kernel
theorem dL_acts_393 : decode cL_acts 393 = .ok (.aload_n 1, 1) := by decide +kernel
theorem dL_acts_394 : decode cL_acts 394 = .ok (.iload_n 2, 1) := by decide +kernel
theorem dL_acts_395 : decode cL_acts 395 = .ok (.iconst 5, 1) := by decide +kernel
theorem dL_acts_396 : decode cL_acts 396 = .ok (.ishr, 1) := by decide +kernel
theorem dL_acts_397 : decode cL_acts 397 = .ok (.bipush 100, 2) := by decide +kernel
theorem dL_acts_399 : decode cL_acts 399 = .ok (.invokestatic 138, 3) := by decide +kernel
theorem dL_acts_402 : decode cL_acts 402 = .ok (.putfield 169, 3) := by decide +kernel
theorem dL_acts_405 : decode cL_acts 405 = .ok (.aload_n 1, 1) := by decide +kernel
theorem dL_acts_406 : decode cL_acts 406 = .ok (.iload_n 2, 1) := by decide +kernel
theorem dL_acts_407 : decode cL_acts 407 = .ok (.bipush 9, 2) := by decide +kernel
theorem dL_acts_409 : decode cL_acts 409 = .ok (.ishr, 1) := by decide +kernel
theorem dL_acts_410 : decode cL_acts 410 = .ok (.bipush 100, 2) := by decide +kernel
theorem dL_acts_412 : decode cL_acts 412 = .ok (.invokestatic 138, 3) := by decide +kernel
theorem dL_acts_415 : decode cL_acts 415 = .ok (.putfield 172, 3) := by decide +kernel
theorem dL_acts_418 : decode cL_acts 418 = .ok (.aload_n 0, 1) := by decide +kernel
theorem dL_acts_419 : decode cL_acts 419 = .ok (.aload_n 1, 1) := by decide +kernel
theorem dL_acts_420 : decode cL_acts 420 = .ok (.getfield 166, 3) := by decide +kernel
theorem dL_acts_423 : decode cL_acts 423 = .ok (.aload_n 1, 1) := by decide +kernel
theorem dL_acts_424 : decode cL_acts 424 = .ok (.getfield 169, 3) := by decide +kernel
theorem dL_acts_427 : decode cL_acts 427 = .ok (.aload_n 1, 1) := by decide +kernel
theorem dL_acts_428 : decode cL_acts 428 = .ok (.getfield 172, 3) := by decide +kernel
theorem dL_acts_431 : decode cL_acts 431 = .ok (.invokevirtual 175, 3) := by decide +kernel
theorem dL_acts_434 : decode cL_acts 434 = .ok (.iload_n 3, 1) := by decide +kernel
theorem dL_acts_435 : decode cL_acts 435 = .ok (.if_icmp .ne 7, 3) := by decide +kernel
theorem dL_acts_438 : decode cL_acts 438 = .ok (.iconst 1, 1) := by decide +kernel
theorem dL_acts_439 : decode cL_acts 439 = .ok (.goto 4, 3) := by decide +kernel
theorem dL_acts_442 : decode cL_acts 442 = .ok (.iconst 0, 1) := by decide +kernel
theorem dL_acts_443 : decode cL_acts 443 = .ok (.ireturn, 1) := by decide +kernel
theorem dL_acts_444 : decode cL_acts 444 = .ok (.sipush 200, 3) := by decide +kernel
theorem dL_acts_447 : decode cL_acts 447 = .ok (.istore_n 3, 1) := by decide +kernel
theorem dL_acts_448 : decode cL_acts 448 = .ok (.iconst 0, 1) := by decide +kernel
theorem dL_acts_449 : decode cL_acts 449 = .ok (.istore 4, 2) := by decide +kernel
theorem dL_acts_451 : decode cL_acts 451 = .ok (.iload 4, 2) := by decide +kernel
theorem dL_acts_453 : decode cL_acts 453 = .ok (.aload_n 1, 1) := by decide +kernel
theorem dL_acts_454 : decode cL_acts 454 = .ok (.getfield 73, 3) := by decide +kernel
theorem dL_acts_457 : decode cL_acts 457 = .ok (.if_icmp .ge 35, 3) := by decide +kernel
theorem dL_acts_460 : decode cL_acts 460 = .ok (.aload_n 1, 1) := by decide +kernel
theorem dL_acts_461 : decode cL_acts 461 = .ok (.getfield 80, 3) := by decide +kernel
theorem dL_acts_464 : decode cL_acts 464 = .ok (.iload 4, 2) := by decide +kernel
theorem dL_acts_466 : decode cL_acts 466 = .ok (.iaload, 1) := by decide +kernel
theorem dL_acts_467 : decode cL_acts 467 = .ok (.ifCond .le 17, 3) := by decide +kernel
theorem dL_acts_470 : decode cL_acts 470 = .ok (.iload_n 3, 1) := by decide +kernel
theorem dL_acts_471 : decode cL_acts 471 = .ok (.aload_n 1, 1) := by decide +kernel
theorem dL_acts_472 : decode cL_acts 472 = .ok (.getfield 143, 3) := by decide +kernel
theorem dL_acts_475 : decode cL_acts 475 = .ok (.iload 4, 2) := by decide +kernel
theorem dL_acts_477 : decode cL_acts 477 = .ok (.iaload, 1) := by decide +kernel
theorem dL_acts_478 : decode cL_acts 478 = .ok (.invokestatic 178, 3) := by decide +kernel
theorem dL_acts_481 : decode cL_acts 481 = .ok (.goto 4, 3) := by decide +kernel
theorem dL_acts_484 : decode cL_acts 484 = .ok (.iload_n 3, 1) := by decide +kernel
theorem dL_acts_485 : decode cL_acts 485 = .ok (.istore_n 3, 1) := by decide +kernel
theorem dL_acts_486 : decode cL_acts 486 = .ok (.iinc 4 1, 3) := by decide +kernel
theorem dL_acts_489 : decode cL_acts 489 = .ok (.goto (-38), 3) := by decide +kernel
theorem dL_acts_492 : decode cL_acts 492 = .ok (.aload_n 1, 1) := by decide +kernel
theorem dL_acts_493 : decode cL_acts 493 = .ok (.getfield 95, 3) := by decide +kernel
theorem dL_acts_496 : decode cL_acts 496 = .ok (.istore 4, 2) := by decide +kernel
theorem dL_acts_498 : decode cL_acts 498 = .ok (.aload_n 1, 1) := by decide +kernel
theorem dL_acts_499 : decode cL_acts 499 = .ok (.iload_n 3, 1) := by decide +kernel
theorem dL_acts_500 : decode cL_acts 500 = .ok (.iload_n 2, 1) := by decide +kernel
theorem dL_acts_501 : decode cL_acts 501 = .ok (.iconst 3, 1) := by decide +kernel
theorem dL_acts_502 : decode cL_acts 502 = .ok (.ishr, 1) := by decide +kernel
theorem dL_acts_503 : decode cL_acts 503 = .ok (.sipush 801, 3) := by decide +kernel
theorem dL_acts_506 : decode cL_acts 506 = .ok (.iload_n 3, 1) := by decide +kernel
theorem dL_acts_507 : decode cL_acts 507 = .ok (.isub, 1) := by decide +kernel
theorem dL_acts_508 : decode cL_acts 508 = .ok (.invokestatic 138, 3) := by decide +kernel
theorem dL_acts_511 : decode cL_acts 511 = .ok (.iadd, 1) := by decide +kernel
theorem dL_acts_512 : decode cL_acts 512 = .ok (.putfield 95, 3) := by decide +kernel
theorem dL_acts_515 : decode cL_acts 515 = .ok (.aload_n 0, 1) := by decide +kernel
theorem dL_acts_516 : decode cL_acts 516 = .ok (.aload_n 1, 1) := by decide +kernel
theorem dL_acts_517 : decode cL_acts 517 = .ok (.getfield 95, 3) := by decide +kernel
theorem dL_acts_520 : decode cL_acts 520 = .ok (.invokevirtual 181, 3) := by decide +kernel
theorem dL_acts_523 : decode cL_acts 523 = .ok (.iload 4, 2) := by decide +kernel
theorem dL_acts_525 : decode cL_acts 525 = .ok (.if_icmp .ne 7, 3) := by decide +kernel
theorem dL_acts_528 : decode cL_acts 528 = .ok (.iconst 1, 1) := by decide +kernel
theorem dL_acts_529 : decode cL_acts 529 = .ok (.goto 4, 3) := by decide +kernel
theorem dL_acts_532 : decode cL_acts 532 = .ok (.iconst 0, 1) := by decide +kernel
theorem dL_acts_533 : decode cL_acts 533 = .ok (.ireturn, 1) := by decide +kernel
theorem dL_acts_534 : decode cL_acts 534 = .ok (.iconst 1, 1) := by decide +kernel
theorem dL_acts_535 : decode cL_acts 535 = .ok (.iload_n 2, 1) := by decide +kernel
theorem dL_acts_536 : decode cL_acts 536 = .ok (.iconst 3, 1) := by decide +kernel
theorem dL_acts_537 : decode cL_acts 537 = .ok (.ishr, 1) := by decide +kernel
theorem dL_acts_538 : decode cL_acts 538 = .ok (.iconst 4, 1) := by decide +kernel
theorem dL_acts_539 : decode cL_acts 539 = .ok (.invokestatic 138, 3) := by decide +kernel
theorem dL_acts_542 : decode cL_acts 542 = .ok (.iadd, 1) := by decide +kernel
theorem dL_acts_543 : decode cL_acts 543 = .ok (.istore_n 3, 1) := by decide +kernel
theorem dL_acts_544 : decode cL_acts 544 = .ok (.iconst 0, 1) := by decide +kernel
theorem dL_acts_545 : decode cL_acts 545 = .ok (.istore 4, 2) := by decide +kernel
theorem dL_acts_547 : decode cL_acts 547 = .ok (.iconst 0, 1) := by decide +kernel
theorem dL_acts_548 : decode cL_acts 548 = .ok (.istore 5, 2) := by decide +kernel
theorem dL_acts_550 : decode cL_acts 550 = .ok (.iload 5, 2) := by decide +kernel
theorem dL_acts_552 : decode cL_acts 552 = .ok (.iload_n 3, 1) := by decide +kernel
theorem dL_acts_553 : decode cL_acts 553 = .ok (.if_icmp .ge 18, 3) := by decide +kernel
theorem dL_acts_556 : decode cL_acts 556 = .ok (.iload 4, 2) := by decide +kernel
theorem dL_acts_558 : decode cL_acts 558 = .ok (.aload_n 1, 1) := by decide +kernel
theorem dL_acts_559 : decode cL_acts 559 = .ok (.invokevirtual 184, 3) := by decide +kernel
theorem dL_acts_562 : decode cL_acts 562 = .ok (.iadd, 1) := by decide +kernel
theorem dL_acts_563 : decode cL_acts 563 = .ok (.istore 4, 2) := by decide +kernel
theorem dL_acts_565 : decode cL_acts 565 = .ok (.iinc 5 1, 3) := by decide +kernel
theorem dL_acts_568 : decode cL_acts 568 = .ok (.goto (-18), 3) := by decide +kernel
theorem dL_acts_571 : decode cL_acts 571 = .ok (.aload_n 0, 1) := by decide +kernel
theorem dL_acts_572 : decode cL_acts 572 = .ok (.iload_n 3, 1) := by decide +kernel
theorem dL_acts_573 : decode cL_acts 573 = .ok (.invokevirtual 187, 3) := by decide +kernel
theorem dL_acts_576 : decode cL_acts 576 = .ok (.iload 4, 2) := by decide +kernel
theorem dL_acts_578 : decode cL_acts 578 = .ok (.if_icmp .ne 7, 3) := by decide +kernel
theorem dL_acts_581 : decode cL_acts 581 = .ok (.iconst 1, 1) := by decide +kernel
theorem dL_acts_582 : decode cL_acts 582 = .ok (.goto 4, 3) := by decide +kernel
theorem dL_acts_585 : decode cL_acts 585 = .ok (.iconst 0, 1) := by decide +kernel
theorem dL_acts_586 : decode cL_acts 586 = .ok (.ireturn, 1) := by decide +kernel
set_option maxRecDepth 20000 in
theorem ggL_law_X4_init : GoodIn wsL_law wsX4_init := goodIn_r _ [8, 9, 10, 11, 12, 13, 14, 15, 16, 17, 18, 19, 20, 21, 22, 23, 24, 25, 26, 27, 28, 29, 30, 31, 32, 33, 34, 35, 36, 37, 38, 39, 40, 41, 42, 43, 44, 45, 46, 47, 48, 49, 50, 51, 52, 53, 54, 55, 56, 57, 58, 59, 60, 61, 62, 63, 399, 400, 401, 402, 403, 404, 405, 406, 407, 408, 409, 410, 411, 435, 436, 437, 438, 439, 440, 441, 442, 443, 444, 445, 446, 447, 448, 449, 450, 451, 452, 453, 454, 455, 456, 457, 458, 459, 460, 461] (by decide +kernel) (by decide +kernel)
set_option maxRecDepth 20000 in
theorem gL_law_X4_init : GoodIn wsL_law (wsX4_init) := ggL_law_X4_init
set_option maxRecDepth 20000 in
theorem ggL_law_X5_init : GoodIn wsL_law wsX5_init := goodIn_r _ [65, 66, 10, 11, 12, 67, 68, 69, 70, 71, 72, 73, 74, 75, 76, 77, 78, 412, 413, 414, 415, 416, 417, 418, 419, 420, 421, 422, 423, 424, 425, 426, 427, 428, 429, 430, 431, 432, 433, 434] (by decide +kernel) (by decide +kernel)
set_option maxRecDepth 20000 in
theorem gL_law_X5_init_n191 : GoodIn wsL_law (wsX5_init) := ggL_law_X5_init
set_option maxRecDepth 20000 in
theorem ggL_law_L_cell : GoodIn wsL_law wsL_cell := goodIn_r _ [82, 83] (by decide +kernel) (by decide +kernel)
set_option maxRecDepth 20000 in
theorem gL_law_L_cell : GoodIn wsL_law (va_wsS RL 192 yL_cell wsL_cell) := goodIn_app (goodIn_of _ (by decide +kernel)) ggL_law_L_cell
set_option maxRecDepth 20000 in
theorem ggL_law_L_low : GoodIn wsL_law wsL_low := goodIn_r _ [86, 87] (by decide +kernel) (by decide +kernel)
set_option maxRecDepth 20000 in
theorem gL_law_L_low : GoodIn wsL_law (va_wsS RL 138 yL_low wsL_low) := goodIn_app (goodIn_of _ (by decide +kernel)) ggL_law_L_low
set_option maxRecDepth 20000 in
theorem ggL_law_X4_addGrade : GoodIn wsL_law wsX4_addGrade := goodIn_ca (goodIn_ca (goodIn_r _ [91, 92, 93, 94, 95, 96, 13, 97, 98, 2, 99, 100, 101, 102, 103, 399, 400, 401, 402, 403, 404, 405, 406, 407, 408, 409, 410, 411] (by decide +kernel) (by decide +kernel)) (goodIn_sub (fun _ h => List.mem_append_left _ (List.mem_append_left _ (List.mem_append_left _ (List.mem_append_left _ (List.mem_append_left _ (List.mem_append_right _ h)))))) (by decide +kernel))) (goodIn_sub (fun _ h => List.mem_append_left _ (List.mem_append_left _ (List.mem_append_left _ (List.mem_append_left _ (List.mem_append_right _ h))))) (by decide +kernel))
set_option maxRecDepth 20000 in
theorem gL_law_X4_addGrade : GoodIn wsL_law (wsV RL 196 RX4 yX4_addGrade wsX4_addGrade) := goodIn_app (goodIn_of _ (by decide +kernel)) ggL_law_X4_addGrade
set_option maxRecDepth 20000 in
theorem ggL_law_L_acts : GoodIn wsL_law wsL_acts := goodIn_ca (goodIn_ca (goodIn_ca (goodIn_ca (goodIn_r _ [106, 107, 108, 109, 110, 111, 112, 113, 114, 115, 116, 84, 85, 81, 86, 87, 117, 118, 119, 2, 120, 121, 122, 92, 93, 123, 124, 94, 95, 14, 20, 125, 126, 127, 128, 96, 97, 98, 99, 129, 130, 131, 19, 132, 133, 134, 135, 136, 137, 37, 38, 39, 40, 138, 139, 140, 141, 142, 15, 143, 13, 144, 16, 145, 146, 147, 148, 33, 149, 150, 151, 152, 28, 153, 154, 155, 156, 157, 158, 159, 160, 161, 162, 163, 164, 165, 166, 167, 5, 168, 169, 170, 73, 171, 72, 172, 71, 70, 173, 174, 175, 176, 177, 178, 67, 75, 179, 180, 181, 182, 183, 184, 76, 77, 185, 78, 186, 187, 188, 189, 190, 191, 192, 193, 12, 68, 69, 194, 195, 196, 197, 198, 199, 200, 201, 202, 203, 32, 204, 205, 206, 207, 208, 24, 209, 210, 211, 212, 31, 213, 214, 215, 216, 217, 218, 60, 61, 62, 63, 219, 220, 221, 222, 223, 224, 225, 226, 227, 228, 229, 230, 231, 232, 233, 234, 235, 236, 237, 27, 238, 53, 239, 54, 55, 240, 241, 242, 23, 243, 244, 245, 246, 247, 46, 248, 47, 249, 48, 250, 251, 252, 253, 254, 255, 256, 257, 258, 44, 259, 260, 261, 262, 263, 264, 265, 45, 266, 267, 268, 269, 270, 271, 272, 273, 274, 275, 276, 277, 278, 279, 280, 281, 282, 283, 284, 285, 286, 412, 413, 414, 415, 416, 417, 418, 419, 420, 421, 422, 423, 424, 425, 426, 427, 428, 429, 430, 431, 432, 433, 434, 399, 400, 401, 402, 403, 404, 405, 406, 407, 408, 409, 410, 411, 435, 436, 437, 438, 439, 448, 449, 450, 451, 452, 453, 454, 455, 456, 457, 458, 459, 460, 461, 440, 441, 442, 443, 444, 445, 446, 447] (by decide +kernel) (by decide +kernel)) (goodIn_sub (fun _ h => List.mem_append_left _ (List.mem_append_left _ (List.mem_append_left _ (List.mem_append_right _ h)))) (by decide +kernel))) (goodIn_sub (fun _ h => List.mem_append_left _ (List.mem_append_left _ (List.mem_append_left _ (List.mem_append_left _ (List.mem_append_left _ (List.mem_append_right _ h)))))) (by decide +kernel))) (goodIn_sub (fun _ h => List.mem_append_left _ (List.mem_append_left _ (List.mem_append_right _ h))) (by decide +kernel))) (goodIn_sub (fun _ h => List.mem_append_left _ (List.mem_append_left _ (List.mem_append_left _ (List.mem_append_left _ (List.mem_append_right _ h))))) (by decide +kernel))
set_option maxRecDepth 20000 in
theorem gL_law_L_acts : GoodIn wsL_law (va_wsS RL 199 yL_acts wsL_acts) := goodIn_app (goodIn_of _ (by decide +kernel)) ggL_law_L_acts
set_option maxRecDepth 20000 in
theorem ggL_law_L_agrees : GoodIn wsL_law wsL_agrees := goodIn_ca (goodIn_ca (goodIn_ca (goodIn_r _ [289, 290, 291, 292, 2, 293, 32, 204, 294, 295, 296, 297, 143, 298, 299, 300, 301, 230, 302, 187, 188, 5, 189, 182, 183, 181, 303, 304, 305, 306, 307, 308, 309, 31, 310, 218, 61, 62, 63, 311, 312, 313, 314, 315, 316, 317, 318, 319, 320, 321, 322, 323, 324, 325, 326, 327, 328, 329, 233, 330, 331, 81, 332, 333, 334, 335, 336, 337, 338, 339, 15, 13, 16, 125, 126, 127, 128, 96, 340, 341, 342, 343, 20, 344, 345, 346, 19, 347, 133, 37, 40, 348, 349, 350, 351, 352, 172, 68, 70, 74, 73, 353, 354, 355, 356, 121, 122, 357, 358, 251, 252, 253, 359, 360, 361, 362, 363, 364, 191, 192, 193, 12, 69, 72, 194, 195, 107, 108, 109, 110, 365, 366, 367, 368, 24, 14, 240, 241, 242, 23, 243, 244, 245, 115, 116, 246, 247, 46, 248, 47, 249, 48, 250, 254, 255, 256, 257, 258, 44, 259, 260, 261, 262, 263, 264, 265, 45, 266, 267, 268, 269, 270, 271, 272, 273, 369, 197, 198, 199, 370, 371, 372, 373, 374, 375, 376, 377, 378, 379, 380, 381, 382, 383, 384, 385, 386, 222, 223, 224, 225, 387, 388, 389, 390, 391, 392, 232, 393, 394, 395, 396, 397, 398, 412, 413, 414, 415, 416, 417, 418, 419, 420, 421, 422, 423, 424, 425, 426, 427, 428, 429, 430, 431, 432, 433, 434, 399, 400, 401, 402, 403, 404, 405, 406, 407, 408, 409, 410, 411, 451, 452, 453, 454, 455, 456, 457, 458, 459, 460, 461, 435, 436, 437, 438, 439, 440, 441, 442, 443, 444, 445, 446, 447] (by decide +kernel) (by decide +kernel)) (goodIn_sub (fun _ h => List.mem_append_left _ (List.mem_append_right _ h)) (by decide +kernel))) (goodIn_sub (fun _ h => List.mem_append_left _ (List.mem_append_left _ (List.mem_append_left _ (List.mem_append_right _ h)))) (by decide +kernel))) (goodIn_sub (fun _ h => List.mem_append_right _ h) (by decide +kernel))
set_option maxRecDepth 20000 in
theorem gL_law_L_agrees : GoodIn wsL_law (va_wsS RL 203 yL_agrees wsL_agrees) := goodIn_app (goodIn_of _ (by decide +kernel)) ggL_law_L_agrees
theorem dL_law_0 : decode cL_law 0 = .ok (.new 16, 3) := by decide +kernel
theorem dL_law_3 : decode cL_law 3 = .ok (.dup, 1) := by decide +kernel
theorem dL_law_4 : decode cL_law 4 = .ok (.invokespecial 190, 3) := by decide +kernel
theorem dL_law_7 : decode cL_law 7 = .ok (.astore_n 1, 1) := by decide +kernel
theorem dL_law_8 : decode cL_law 8 = .ok (.new 27, 3) := by decide +kernel
theorem dL_law_11 : decode cL_law 11 = .ok (.dup, 1) := by decide +kernel
theorem dL_law_12 : decode cL_law 12 = .ok (.invokespecial 191, 3) := by decide +kernel
theorem dL_law_15 : decode cL_law 15 = .ok (.astore_n 2, 1) := by decide +kernel
theorem dL_law_16 : decode cL_law 16 = .ok (.iconst 1, 1) := by decide +kernel
theorem dL_law_17 : decode cL_law 17 = .ok (.istore_n 3, 1) := by decide +kernel
theorem dL_law_18 : decode cL_law 18 = .ok (.iconst 0, 1) := by decide +kernel
theorem dL_law_19 : decode cL_law 19 = .ok (.istore 4, 2) := by decide +kernel
theorem dL_law_21 : decode cL_law 21 = .ok (.iload 4, 2) := by decide +kernel
theorem dL_law_23 : decode cL_law 23 = .ok (.iconst 3, 1) := by decide +kernel
theorem dL_law_24 : decode cL_law 24 = .ok (.if_icmp .ge 62, 3) := by decide +kernel
theorem dL_law_27 : decode cL_law 27 = .ok (.aload_n 2, 1) := by decide +kernel
theorem dL_law_28 : decode cL_law 28 = .ok (.getfield 119, 3) := by decide +kernel
theorem dL_law_31 : decode cL_law 31 = .ok (.iload 4, 2) := by decide +kernel
theorem dL_law_33 : decode cL_law 33 = .ok (.bipush 40, 2) := by decide +kernel
theorem dL_law_35 : decode cL_law 35 = .ok (.bipush 50, 2) := by decide +kernel
theorem dL_law_37 : decode cL_law 37 = .ok (.iload 4, 2) := by decide +kernel
theorem dL_law_39 : decode cL_law 39 = .ok (.imul, 1) := by decide +kernel
theorem dL_law_40 : decode cL_law 40 = .ok (.iadd, 1) := by decide +kernel
theorem dL_law_41 : decode cL_law 41 = .ok (.aload_n 0, 1) := by decide +kernel
theorem dL_law_42 : decode cL_law 42 = .ok (.iload 4, 2) := by decide +kernel
theorem dL_law_44 : decode cL_law 44 = .ok (.invokestatic 192, 3) := by decide +kernel
theorem dL_law_47 : decode cL_law 47 = .ok (.bipush 50, 2) := by decide +kernel
theorem dL_law_49 : decode cL_law 49 = .ok (.invokestatic 138, 3) := by decide +kernel
theorem dL_law_52 : decode cL_law 52 = .ok (.iadd, 1) := by decide +kernel
theorem dL_law_53 : decode cL_law 53 = .ok (.iastore, 1) := by decide +kernel
theorem dL_law_54 : decode cL_law 54 = .ok (.iload_n 3, 1) := by decide +kernel
theorem dL_law_55 : decode cL_law 55 = .ok (.ifCond .eq 23, 3) := by decide +kernel
theorem dL_law_58 : decode cL_law 58 = .ok (.aload_n 1, 1) := by decide +kernel
theorem dL_law_59 : decode cL_law 59 = .ok (.aload_n 2, 1) := by decide +kernel
theorem dL_law_60 : decode cL_law 60 = .ok (.getfield 119, 3) := by decide +kernel
theorem dL_law_63 : decode cL_law 63 = .ok (.iload 4, 2) := by decide +kernel
theorem dL_law_65 : decode cL_law 65 = .ok (.iaload, 1) := by decide +kernel
theorem dL_law_66 : decode cL_law 66 = .ok (.invokevirtual 196, 3) := by decide +kernel
theorem dL_law_69 : decode cL_law 69 = .ok (.iload 4, 2) := by decide +kernel
theorem dL_law_71 : decode cL_law 71 = .ok (.if_icmp .ne 7, 3) := by decide +kernel
theorem dL_law_74 : decode cL_law 74 = .ok (.iconst 1, 1) := by decide +kernel
theorem dL_law_75 : decode cL_law 75 = .ok (.goto 4, 3) := by decide +kernel
theorem dL_law_78 : decode cL_law 78 = .ok (.iconst 0, 1) := by decide +kernel
theorem dL_law_79 : decode cL_law 79 = .ok (.istore_n 3, 1) := by decide +kernel
theorem dL_law_80 : decode cL_law 80 = .ok (.iinc 4 1, 3) := by decide +kernel
theorem dL_law_83 : decode cL_law 83 = .ok (.goto (-62), 3) := by decide +kernel
theorem dL_law_86 : decode cL_law 86 = .ok (.iconst 0, 1) := by decide +kernel
theorem dL_law_87 : decode cL_law 87 = .ok (.istore 4, 2) := by decide +kernel
theorem dL_law_89 : decode cL_law 89 = .ok (.iload 4, 2) := by decide +kernel
theorem dL_law_91 : decode cL_law 91 = .ok (.bipush 26, 2) := by decide +kernel
theorem dL_law_93 : decode cL_law 93 = .ok (.if_icmp .ge 43, 3) := by decide +kernel
theorem dL_law_96 : decode cL_law 96 = .ok (.iload_n 3, 1) := by decide +kernel
theorem dL_law_97 : decode cL_law 97 = .ok (.ifCond .eq 39, 3) := by decide +kernel
theorem dL_law_100 : decode cL_law 100 = .ok (.aload_n 1, 1) := by decide +kernel
theorem dL_law_101 : decode cL_law 101 = .ok (.aload_n 2, 1) := by decide +kernel
theorem dL_law_102 : decode cL_law 102 = .ok (.aload_n 0, 1) := by decide +kernel
theorem dL_law_103 : decode cL_law 103 = .ok (.iconst 3, 1) := by decide +kernel
theorem dL_law_104 : decode cL_law 104 = .ok (.iload 4, 2) := by decide +kernel
theorem dL_law_106 : decode cL_law 106 = .ok (.iadd, 1) := by decide +kernel
theorem dL_law_107 : decode cL_law 107 = .ok (.invokestatic 192, 3) := by decide +kernel
theorem dL_law_110 : decode cL_law 110 = .ok (.invokestatic 199, 3) := by decide +kernel
theorem dL_law_113 : decode cL_law 113 = .ok (.ifCond .eq 15, 3) := by decide +kernel
theorem dL_law_116 : decode cL_law 116 = .ok (.aload_n 1, 1) := by decide +kernel
theorem dL_law_117 : decode cL_law 117 = .ok (.aload_n 2, 1) := by decide +kernel
theorem dL_law_118 : decode cL_law 118 = .ok (.invokestatic 203, 3) := by decide +kernel
theorem dL_law_121 : decode cL_law 121 = .ok (.ifCond .eq 7, 3) := by decide +kernel
theorem dL_law_124 : decode cL_law 124 = .ok (.iconst 1, 1) := by decide +kernel
theorem dL_law_125 : decode cL_law 125 = .ok (.goto 4, 3) := by decide +kernel
theorem dL_law_128 : decode cL_law 128 = .ok (.iconst 0, 1) := by decide +kernel
theorem dL_law_129 : decode cL_law 129 = .ok (.istore_n 3, 1) := by decide +kernel
theorem dL_law_130 : decode cL_law 130 = .ok (.iinc 4 1, 3) := by decide +kernel
theorem dL_law_133 : decode cL_law 133 = .ok (.goto (-44), 3) := by decide +kernel
theorem dL_law_136 : decode cL_law 136 = .ok (.iload_n 3, 1) := by decide +kernel
theorem dL_law_137 : decode cL_law 137 = .ok (.ireturn, 1) := by decide +kernel
abbrev vwCl : List vw_C := [(RX0, TX0, 3), (RX1, TX1, 8), (RX2, TX2, 11), (RX3, TX3, 5), (RX4, TX4, 13), (RX5, TX5, 23)]
end
section
/-! plain facts on numbers and arrays, to paste: each family by itself; over the kit's rows on nI and upd -/
/-! ===== order of ints, in all its forms, and through longs ===== -/
theorem fa_lt (a b : Int32) : a < b ↔ a.toInt < b.toInt := Int32.lt_iff_toInt_lt
theorem fa_le (a b : Int32) : a ≤ b ↔ a.toInt ≤ b.toInt := Int32.le_iff_toInt_le
theorem fa_eq (a b : Int32) : a = b ↔ a.toInt = b.toInt := Int32.toInt_inj.symm
theorem fa_lt64 (a b : Int64) : a < b ↔ a.toInt < b.toInt := Int64.lt_iff_toInt_lt
theorem fa_le64 (a b : Int64) : a ≤ b ↔ a.toInt ≤ b.toInt := Int64.le_iff_toInt_le
theorem fa_eq64 (a b : Int64) : a = b ↔ a.toInt = b.toInt := Int64.toInt_inj.symm
/-- a comparison of two ints taken as longs -/
theorem fa_wide_lt (a b : Int32) : a.toInt64 < b.toInt64 ↔ a < b := by rw [fa_lt64, fa_lt, Int32.toInt_toInt64, Int32.toInt_toInt64]
theorem fa_wide_le (a b : Int32) : a.toInt64 ≤ b.toInt64 ↔ a ≤ b := by rw [fa_le64, fa_le, Int32.toInt_toInt64, Int32.toInt_toInt64]
theorem fa_wide_eq (a b : Int32) : a.toInt64 = b.toInt64 ↔ a = b := by rw [fa_eq64, fa_eq, Int32.toInt_toInt64, Int32.toInt_toInt64]
/-- one strict comparison gives all the others -/
theorem fa_of_lt {a b : Int32} (h : a < b) : a ≤ b ∧ ¬ b ≤ a ∧ ¬ b < a ∧ a ≠ b ∧ b ≠ a := by
  rw [fa_lt] at h
  refine ⟨?_, ?_, ?_, ?_, ?_⟩
  · rw [fa_le]; omega
  · rw [fa_le]; omega
  · rw [fa_lt]; omega
  · intro e; rw [fa_eq] at e; omega
  · intro e; rw [fa_eq] at e; omega
theorem fa_of_nlt {a b : Int32} (h : ¬ a < b) : b ≤ a := by
  rw [fa_lt] at h
  rw [fa_le]
  omega
theorem fa_of_nle {a b : Int32} (h : ¬ a ≤ b) : b < a := by
  rw [fa_le] at h
  rw [fa_lt]
  omega
theorem fa_le_ne {a b : Int32} (h : a ≤ b) (h2 : a ≠ b) : a < b := by
  rw [fa_le] at h
  rw [fa_lt]
  have h3 : a.toInt ≠ b.toInt := fun e => h2 ((fa_eq a b).mpr e)
  omega
theorem fa_three (a b : Int32) : a < b ∨ a = b ∨ b < a := by
  rw [fa_lt, fa_lt, fa_eq]
  omega
theorem fa_trans {a b c : Int32} (h : a < b) (h2 : b ≤ c) : a < c := by
  rw [fa_lt] at *
  rw [fa_le] at h2
  omega
/-! ===== small literals as numbers ===== -/
theorem fa_lit (n : Nat) : (OfNat.ofNat n : Int32) = nI n := rfl
theorem fa_litL (n : Nat) : (OfNat.ofNat n : Int64) = lN n := rfl
/-! ===== bits of a number: 'or', masks, one bit ===== -/
theorem fa_and (a b : Nat) : nI a &&& nI b = nI (a &&& b) := by
  apply Int32.toBitVec_inj.1
  show BitVec.ofNat 32 a &&& BitVec.ofNat 32 b = BitVec.ofNat 32 (a &&& b)
  apply BitVec.eq_of_getLsbD_eq
  intro i hi
  simp [hi]
theorem fa_or (a b : Nat) : nI a ||| nI b = nI (a ||| b) := by
  apply Int32.toBitVec_inj.1
  show BitVec.ofNat 32 a ||| BitVec.ofNat 32 b = BitVec.ofNat 32 (a ||| b)
  apply BitVec.eq_of_getLsbD_eq
  intro i hi
  simp [hi]
/-- a remainder by a power of two, as a mask -/
theorem fa_mask (n k : Nat) : nI n &&& nI (2 ^ k - 1) = nI (n % 2 ^ k) := by rw [fa_and, Nat.and_two_pow_sub_one_eq_mod]
/-- 'or' of a high part and a low one that don't meet is their sum -/
theorem fa_or_sum {a k : Nat} (b : Nat) (h : a < 2 ^ k) : nI (2 ^ k * b) ||| nI a = nI (2 ^ k * b + a) := by rw [fa_or, Nat.two_pow_add_eq_or_of_lt h]
/-- one bit, by 'and' with a power of two -/
theorem fa_bit {n j : Nat} (hj : j < 31) : nI n &&& nI (2 ^ j) = 0 ↔ n.testBit j = false := by
  have h2 : (2 : Nat) ^ j < 2 ^ 31 := Nat.pow_lt_pow_right (by decide) hj
  have hle : n &&& 2 ^ j ≤ 2 ^ j := Nat.and_le_right
  have e : n &&& 2 ^ j = 0 ↔ n.testBit j = false := by
    constructor
    · intro h
      have h1 : (n &&& 2 ^ j).testBit j = false := by rw [h]; simp
      rw [Nat.testBit_and] at h1
      first | simpa using h1 | simpa [Nat.testBit_two_pow_self] using h1 | simpa [Nat.testBit_two_pow] using h1
    · intro h
      apply Nat.eq_of_testBit_eq
      intro i
      rw [Nat.testBit_and]
      by_cases hi : j = i
      · subst hi; simp [h]
      · first | (simp [Nat.testBit_two_pow, hi]; done) | (simp [Nat.testBit_two_pow_of_ne hi]; done)
  rw [fa_and]
  constructor
  · intro h
    apply e.mp
    rcases Nat.eq_zero_or_pos (n &&& 2 ^ j) with z | z
    · exact z
    · exact absurd h (nI_ne0 z (Nat.lt_of_le_of_lt hle h2))
  · intro h
    rw [e.mpr h]; exact nI_0
/-- a remainder by a power of two of a number that isn't negative, as Java divides -/
theorem fa_rem {a k : Nat} (ha : a < 2 ^ 31) (hk : k < 31) : nI a - nI a / nI (2 ^ k) * nI (2 ^ k) = nI (a % 2 ^ k) := pk_rem ha (Nat.two_pow_pos k) (Nat.pow_lt_pow_right (by decide) hk)
/-! ===== cuts to a byte, a short ===== -/
theorem fa_byte_xor (x y : Int32) : (x ^^^ y).toInt8 = x.toInt8 ^^^ y.toInt8 := by
  apply Int8.toBitVec_inj.1
  apply BitVec.eq_of_getLsbD_eq
  intro i hi
  first | (simp [hi]; done) | (simp [hi, BitVec.getLsbD_setWidth, BitVec.getLsbD_signExtend]; done)
theorem fa_short_xor (x y : Int32) : (x ^^^ y).toInt16 = x.toInt16 ^^^ y.toInt16 := by
  apply Int16.toBitVec_inj.1
  apply BitVec.eq_of_getLsbD_eq
  intro i hi
  first | (simp [hi]; done) | (simp [hi, BitVec.getLsbD_setWidth, BitVec.getLsbD_signExtend]; done)
/-- the cut to a byte sees the low byte alone -/
theorem fa_byte_low (x : Int32) : (x &&& 255).toInt8 = x.toInt8 := by
  apply Int8.toBitVec_inj.1
  apply BitVec.eq_of_getLsbD_eq
  intro i hi
  have h2 : (255 : Int32).toBitVec.getLsbD i = true := by
    have : ∀ j : Fin 8, (255 : Int32).toBitVec.getLsbD j.val = true := by decide +kernel
    exact this ⟨i, hi⟩
  have h4 : (x &&& 255).toBitVec.getLsbD i = x.toBitVec.getLsbD i := by
    show (x.toBitVec &&& (255 : Int32).toBitVec).getLsbD i = _
    rw [BitVec.getLsbD_and, h2, Bool.and_true]
  have h3 : i < 32 := by omega
  first
    | (show (((x &&& 255).toBitVec).signExtend 8).getLsbD i = (x.toBitVec.signExtend 8).getLsbD i; rw [BitVec.getLsbD_signExtend, BitVec.getLsbD_signExtend, if_pos h3, if_pos h3, h4])
    | (show (((x &&& 255).toBitVec).setWidth 8).getLsbD i = (x.toBitVec.setWidth 8).getLsbD i; rw [BitVec.getLsbD_setWidth, BitVec.getLsbD_setWidth, h4])
    | (simp [hi, h3, h4]; done)
theorem fa_short_low (x : Int32) : (x &&& 65535).toInt16 = x.toInt16 := by
  apply Int16.toBitVec_inj.1
  apply BitVec.eq_of_getLsbD_eq
  intro i hi
  have h2 : (65535 : Int32).toBitVec.getLsbD i = true := by
    have : ∀ j : Fin 16, (65535 : Int32).toBitVec.getLsbD j.val = true := by decide +kernel
    exact this ⟨i, hi⟩
  have h4 : (x &&& 65535).toBitVec.getLsbD i = x.toBitVec.getLsbD i := by
    show (x.toBitVec &&& (65535 : Int32).toBitVec).getLsbD i = _
    rw [BitVec.getLsbD_and, h2, Bool.and_true]
  have h3 : i < 32 := by omega
  first
    | (show (((x &&& 65535).toBitVec).signExtend 16).getLsbD i = (x.toBitVec.signExtend 16).getLsbD i; rw [BitVec.getLsbD_signExtend, BitVec.getLsbD_signExtend, if_pos h3, if_pos h3, h4])
    | (show (((x &&& 65535).toBitVec).setWidth 16).getLsbD i = (x.toBitVec.setWidth 16).getLsbD i; rw [BitVec.getLsbD_setWidth, BitVec.getLsbD_setWidth, h4])
    | (simp [hi, h3, h4]; done)
/-- a small number is its own byte, its own short -/
theorem fa_byte_small {n : Nat} (h : n < 128) : (nI n).toInt8.toInt32 = nI n := by
  have : ∀ j : Fin 128, (nI j.val).toInt8.toInt32 = nI j.val := by decide +kernel
  exact this ⟨n, h⟩
/-! ===== absolute difference ===== -/
theorem fa_absdiff {a b : Nat} (ha : a < 2 ^ 31) (hb : b < 2 ^ 31) : (if nI a < nI b then nI b - nI a else nI a - nI b) = nI (if a < b then b - a else a - b) := by
  by_cases h : a < b
  · rw [if_pos (nI_lt h hb), if_pos h]
    exact pk_sub (Nat.le_of_lt h)
  · rw [if_neg (nI_nlt (Nat.le_of_not_lt h) ha), if_neg h]
    exact pk_sub (Nat.le_of_not_lt h)
/-! ===== an array behind i stores, a conditional store, a row copied ===== -/
/-- f where k < i, what stood there else -/
def fa_fill {α : Type} (f g : Nat → α) (i : Nat) : Nat → α := fun k => if k < i then f k else g k
theorem fa_fill_0 {α : Type} (f g : Nat → α) : fa_fill f g 0 = g := funext fun k => if_neg (Nat.not_lt_zero k)
theorem fa_fill_in {α : Type} {f g : Nat → α} {i k : Nat} (h : k < i) : fa_fill f g i k = f k := if_pos h
theorem fa_fill_out {α : Type} {f g : Nat → α} {i k : Nat} (h : i ≤ k) : fa_fill f g i k = g k := if_neg (Nat.not_lt.mpr h)
theorem fa_fill_succ (f g : Nat → Int32) (i : Nat) : upd (fa_fill f g i) i (f i) = fa_fill f g (i + 1) := by
  funext k
  by_cases e : k = i
  · subst e
    rw [pk_us]
    exact (if_pos (Nat.lt_succ_self k)).symm
  · rw [pk_un e]
    by_cases h : k < i
    · rw [fa_fill_in h, fa_fill_in (Nat.lt_succ_of_lt h)]
    · rw [fa_fill_out (Nat.le_of_not_lt h), fa_fill_out (by omega)]
/-- a store that changes nothing -/
theorem fa_upd_same {f : Nat → Int32} {i : Nat} {x : Int32} (h : f i = x) : upd f i x = f := by
  funext k
  by_cases e : k = i
  · subst e
    rw [pk_us, h]
  · rw [pk_un e]
/-- a store under a condition, told as one -/
theorem fa_upd_if (c : Prop) [Decidable c] (f : Nat → Int32) (i : Nat) (x : Int32) : (if c then upd f i x else f) = upd f i (if c then x else f i) := by
  by_cases h : c
  · rw [if_pos h, if_pos h]
  · rw [if_neg h, if_neg h, fa_upd_same rfl]
/-- two stores at one place, at two -/
theorem fa_upd_twice (f : Nat → Int32) (i : Nat) (x y : Int32) : upd (upd f i x) i y = upd f i y := by
  funext k
  by_cases e : k = i
  · subst e
    rw [pk_us, pk_us]
  · rw [pk_un e, pk_un e, pk_un e]
theorem fa_upd_swap (f : Nat → Int32) {i j : Nat} (h : i ≠ j) (x y : Int32) : upd (upd f i x) j y = upd (upd f j y) i x := by
  funext k
  by_cases e : k = i
  · subst e
    rw [pk_un h, pk_us, pk_us]
  · by_cases e2 : k = j
    · subst e2
      rw [pk_us, pk_un e, pk_us]
    · rw [pk_un e2, pk_un e, pk_un e, pk_un e2]
/-! ===== the first index with a property; a count ===== -/
/-- the first k < n with p k, n if there is none -/
def fa_first (p : Nat → Bool) : Nat → Nat
  | 0 => 0
  | n + 1 => if fa_first p n < n then fa_first p n else if p n then n else n + 1
theorem fa_first_le (p : Nat → Bool) : ∀ n, fa_first p n ≤ n
  | 0 => Nat.le_refl 0
  | n + 1 => by
    have ih := fa_first_le p n
    unfold fa_first
    split
    · omega
    · split
      · omega
      · omega
theorem fa_first_no (p : Nat → Bool) : ∀ n k, k < fa_first p n → p k = false
  | 0, k, h => absurd h (Nat.not_lt_zero k)
  | n + 1, k, h => by
    have ih := fa_first_no p n
    have hl := fa_first_le p n
    unfold fa_first at h
    split at h
    · exact ih k h
    · rename_i h1
      split at h
      · exact ih k (by omega)
      · rename_i h2
        by_cases e : k = n
        · subst e
          exact Bool.eq_false_iff.mpr h2
        · exact ih k (by omega)
theorem fa_first_yes (p : Nat → Bool) : ∀ n, fa_first p n < n → p (fa_first p n) = true
  | 0, h => absurd h (Nat.not_lt_zero _)
  | n + 1, h => by
    have ih := fa_first_yes p n
    have hl := fa_first_le p n
    unfold fa_first at h ⊢
    split at h
    · rename_i h1
      rw [if_pos h1]
      exact ih h1
    · rename_i h1
      rw [if_neg h1]
      split at h
      · rename_i h2
        rw [if_pos h2]
        exact h2
      · omega
/-- how many k < n have p k -/
def fa_cnt (p : Nat → Bool) : Nat → Nat
  | 0 => 0
  | n + 1 => fa_cnt p n + if p n then 1 else 0
theorem fa_cnt_le (p : Nat → Bool) : ∀ n, fa_cnt p n ≤ n
  | 0 => Nat.le_refl 0
  | n + 1 => by
    have ih := fa_cnt_le p n
    unfold fa_cnt
    split
    · omega
    · omega
theorem fa_cnt_yes {p : Nat → Bool} {n : Nat} (h : p n = true) : fa_cnt p (n + 1) = fa_cnt p n + 1 := by rw [fa_cnt, if_pos h]
theorem fa_cnt_no {p : Nat → Bool} {n : Nat} (h : p n = false) : fa_cnt p (n + 1) = fa_cnt p n := by rw [fa_cnt, if_neg (by rw [h]; decide)]; rfl
theorem fa_cnt_cong {p q : Nat → Bool} : ∀ {n : Nat}, (∀ k, k < n → p k = q k) → fa_cnt p n = fa_cnt q n
  | 0, _ => rfl
  | n + 1, h => by rw [fa_cnt, fa_cnt, fa_cnt_cong (fun k hk => h k (Nat.lt_succ_of_lt hk)), h n (Nat.lt_succ_self n)]
/-! ===== an answer carried into a post; a branch on a boolean answer ===== -/
theorem fa_post {α : Type} {P : α → Prop} {x y : α} (h : x = y) (hp : P y) : P x := h ▸ hp
theorem fa_post2 {α β : Type} {P : α → β → Prop} {x y : α} {u v : β} (h : x = y) (h2 : u = v) (hp : P y v) : P x u := h ▸ h2 ▸ hp
theorem fa_bool {r : Int32} {b : Bool} (h : r = if b then 1 else 0) : (r = 0 ↔ b = false) ∧ (¬ r = 0 ↔ b = true) := by
  subst h
  cases b
  · exact ⟨⟨fun _ => rfl, fun _ => rfl⟩, ⟨fun h => absurd rfl h, fun h => absurd h (by decide)⟩⟩
  · exact ⟨⟨fun h => absurd h (by decide), fun h => absurd h (by decide)⟩, ⟨fun _ => rfl, fun _ => by decide⟩⟩
/-- a boolean's narrowing changes nothing -/
theorem fa_bool_and {r : Int32} (h : r = 0 ∨ r = 1) : r &&& 1 = r := by
  rcases h with rfl | rfl
  · decide
  · decide
theorem fa_bool_prop {c : Prop} [Decidable c] {r : Int32} (h : r = if c then 1 else 0) : (r = 0 ↔ ¬ c) ∧ (¬ r = 0 ↔ c) := by
  subst h
  by_cases hc : c
  · rw [if_pos hc]
    exact ⟨⟨fun h => absurd h (by decide), fun h => absurd hc h⟩, ⟨fun _ => hc, fun _ => by decide⟩⟩
  · rw [if_neg hc]
    exact ⟨⟨fun _ => hc, fun _ => rfl⟩, ⟨fun h => absurd rfl h, fun h => absurd h hc⟩⟩
end
section
/-! plain facts to paste, each family by itself; over the kit's nI, lN and upd -/
/-! ===== drawers: more things than places ===== -/
theorem fb_holes : ∀ (m n : Nat) (f : Nat → Nat), (∀ i, i < n → f i < m) → (∀ i j, i < j → j < n → f i ≠ f j) → n ≤ m := by
  intro m
  induction m with
  | zero =>
    intro n f h1 _
    rcases Nat.eq_zero_or_pos n with h | h
    · omega
    · exact absurd (h1 0 h) (Nat.not_lt_zero _)
  | succ m ih =>
    intro n f h1 h2
    by_cases hx : ∃ i, i < n ∧ f i = m
    · obtain ⟨a, ha, hfa⟩ := hx
      have hg := ih (n - 1) (fun i => if i < a then f i else f (i + 1)) (by
        intro i hi
        by_cases q : i < a
        · simp only [if_pos q]
          have b1 := h1 i (by omega)
          have b2 := h2 i a q ha
          omega
        · simp only [if_neg q]
          have b1 := h1 (i + 1) (by omega)
          have b2 := h2 a (i + 1) (by omega) (by omega)
          omega) (by
        intro i j hij hj
        by_cases q : i < a
        · by_cases r : j < a
          · simp only [if_pos q, if_pos r]
            exact h2 i j hij (by omega)
          · simp only [if_pos q, if_neg r]
            exact h2 i (j + 1) (by omega) (by omega)
        · have r : ¬ j < a := by omega
          simp only [if_neg q, if_neg r]
          exact h2 (i + 1) (j + 1) (by omega) (by omega))
      omega
    · have hg := ih n f (fun i hi => by
        have b1 := h1 i hi
        have b2 : f i ≠ m := fun e => hx ⟨i, hi, e⟩
        omega) h2
      omega
/-- two of them in one place -/
theorem fb_twice {m n : Nat} {f : Nat → Nat} (h : ∀ i, i < n → f i < m) (hm : m < n) : ∃ i j, i < j ∧ j < n ∧ f i = f j := by
  refine Classical.byContradiction fun hx => ?_
  have := fb_holes m n f h (fun i j hij hj e => hx ⟨i, j, hij, hj, e⟩)
  omega
/-- as many as places, none twice: each place is taken -/
theorem fb_onto {n : Nat} {f : Nat → Nat} (h : ∀ i, i < n → f i < n) (h2 : ∀ i j, i < j → j < n → f i ≠ f j) {y : Nat} (hy : y < n) : ∃ i, i < n ∧ f i = y := by
  refine Classical.byContradiction fun hx => ?_
  have hne : ∀ i, i < n → f i ≠ y := fun i hi e => hx ⟨i, hi, e⟩
  have := fb_holes (n - 1) n (fun i => if f i < y then f i else f i - 1) (by
    intro i hi
    have b1 := h i hi
    have b2 := hne i hi
    by_cases q : f i < y
    · simp only [if_pos q]; omega
    · simp only [if_neg q]; omega) (by
    intro i j hij hj
    have b1 := hne i (by omega)
    have b2 := hne j hj
    have b3 := h2 i j hij hj
    by_cases q : f i < y
    · by_cases r : f j < y
      · simp only [if_pos q, if_pos r]; exact b3
      · simp only [if_pos q, if_neg r]; omega
    · by_cases r : f j < y
      · simp only [if_neg q, if_pos r]; omega
      · simp only [if_neg q, if_neg r]; omega)
  omega
/-! ===== how many places have a property ===== -/
def fb_ct (p : Nat → Bool) : Nat → Nat
  | 0 => 0
  | n + 1 => fb_ct p n + (if p n then 1 else 0)
theorem fb_ct_succ (p : Nat → Bool) (n : Nat) : fb_ct p (n + 1) = fb_ct p n + (if p n then 1 else 0) := rfl
theorem fb_ct_le (p : Nat → Bool) : ∀ n, fb_ct p n ≤ n
  | 0 => Nat.le_refl _
  | n + 1 => by
    have h := fb_ct_le p n
    rw [fb_ct_succ]
    split <;> omega
theorem fb_ct_step (p : Nat → Bool) (m : Nat) : ∀ n, fb_ct p m ≤ fb_ct p (m + n)
  | 0 => Nat.le_refl _
  | n + 1 => by
    have h := fb_ct_step p m n
    show fb_ct p m ≤ fb_ct p (m + n + 1)
    rw [fb_ct_succ]
    omega
theorem fb_ct_mono (p : Nat → Bool) {m n : Nat} (h : m ≤ n) : fb_ct p m ≤ fb_ct p n := by
  have := fb_ct_step p m (n - m)
  rwa [Nat.add_sub_cancel' h] at this
theorem fb_ct_cong {p q : Nat → Bool} : ∀ {n : Nat}, (∀ k, k < n → p k = q k) → fb_ct p n = fb_ct q n
  | 0, _ => rfl
  | n + 1, h => by
    rw [fb_ct_succ, fb_ct_succ, fb_ct_cong (fun k hk => h k (by omega)), h n (by omega)]
/-- one place changed -/
theorem fb_ct_out (p : Nat → Bool) (b : Bool) {i n : Nat} (h : n ≤ i) : fb_ct (fun k => if k = i then b else p k) n = fb_ct p n :=
  fb_ct_cong fun k hk => if_neg (by omega)
theorem fb_ct_upd (p : Nat → Bool) (b : Bool) {i : Nat} : ∀ {n : Nat}, i < n → fb_ct (fun k => if k = i then b else p k) n + (if p i then 1 else 0) = fb_ct p n + (if b then 1 else 0)
  | 0, h => absurd h (Nat.not_lt_zero i)
  | n + 1, h => by
    rw [fb_ct_succ, fb_ct_succ]
    rcases Nat.lt_or_ge i n with q | q
    · have := fb_ct_upd p b q
      have e : (if n = i then b else p n) = p n := if_neg (by omega)
      rw [e]
      omega
    · have e : i = n := by omega
      subst e
      rw [fb_ct_out p b (Nat.le_refl _)]
      simp only [if_true]
      omega
theorem fb_ct_sub {p q : Nat → Bool} : ∀ {n : Nat}, (∀ k, k < n → p k = true → q k = true) → fb_ct p n ≤ fb_ct q n
  | 0, _ => Nat.le_refl _
  | n + 1, h => by
    have h1 := fb_ct_sub (n := n) (p := p) (q := q) (fun k hk => h k (by omega))
    have h2 := h n (by omega)
    rw [fb_ct_succ, fb_ct_succ]
    cases hp : p n <;> cases hq : q n <;> simp_all <;> omega
theorem fb_ct_or {p q : Nat → Bool} : ∀ {n : Nat}, (∀ k, k < n → ¬ (p k = true ∧ q k = true)) → fb_ct (fun k => p k || q k) n = fb_ct p n + fb_ct q n
  | 0, _ => rfl
  | n + 1, h => by
    have h1 := fb_ct_or (n := n) (p := p) (q := q) (fun k hk => h k (by omega))
    have h2 := h n (by omega)
    rw [fb_ct_succ, fb_ct_succ, fb_ct_succ, h1]
    cases hp : p n <;> cases hq : q n <;> simp_all <;> omega
theorem fb_ct_not (p : Nat → Bool) : ∀ n, fb_ct p n + fb_ct (fun k => !p k) n = n
  | 0 => rfl
  | n + 1 => by
    have h := fb_ct_not p n
    rw [fb_ct_succ, fb_ct_succ]
    cases p n <;> simp <;> omega
theorem fb_ct_split (p : Nat → Bool) (m : Nat) : ∀ n, fb_ct p (m + n) = fb_ct p m + fb_ct (fun k => p (m + k)) n
  | 0 => rfl
  | n + 1 => by
    have h := fb_ct_split p m n
    show fb_ct p (m + n + 1) = _
    rw [fb_ct_succ, fb_ct_succ, h, Nat.add_assoc]
theorem fb_ct_zero {p : Nat → Bool} : ∀ {n : Nat}, fb_ct p n = 0 ↔ ∀ k, k < n → p k = false
  | 0 => ⟨fun _ k hk => absurd hk (Nat.not_lt_zero k), fun _ => rfl⟩
  | n + 1 => by
    have h := fb_ct_zero (p := p) (n := n)
    rw [fb_ct_succ]
    constructor
    · intro e k hk
      have e1 : fb_ct p n = 0 := by omega
      rcases Nat.lt_or_ge k n with q | q
      · exact h.mp e1 k q
      · have ek : k = n := by omega
        subst ek
        cases hp : p k
        · rfl
        · simp [hp] at e
    · intro a
      rw [h.mpr (fun k hk => a k (by omega)), a n (by omega)]
      rfl
theorem fb_ct_pos {p : Nat → Bool} {n : Nat} : 0 < fb_ct p n ↔ ∃ k, k < n ∧ p k = true := by
  constructor
  · intro h
    refine Classical.byContradiction fun hx => ?_
    have := fb_ct_zero.mpr (fun k hk => by
      cases hp : p k
      · rfl
      · exact absurd ⟨k, hk, hp⟩ hx : ∀ k, k < n → p k = false)
    omega
  · rintro ⟨k, hk, hp⟩
    rcases Nat.eq_zero_or_pos (fb_ct p n) with e | e
    · have := fb_ct_zero.mp e k hk
      rw [this] at hp
      cases hp
    · exact e
theorem fb_ct_all {p : Nat → Bool} {n : Nat} : fb_ct p n = n ↔ ∀ k, k < n → p k = true := by
  have h := fb_ct_not p n
  constructor
  · intro e k hk
    have z : fb_ct (fun k => !p k) n = 0 := by omega
    have := fb_ct_zero.mp z k hk
    cases hp : p k
    · simp [hp] at this
    · rfl
  · intro a
    have z : fb_ct (fun k => !p k) n = 0 := fb_ct_zero.mpr (fun k hk => by simp [a k hk])
    omega
/-- the k-th place with the property -/
theorem fb_ct_kth {p : Nat → Bool} {k : Nat} : ∀ {n : Nat}, k < fb_ct p n → ∃ i, i < n ∧ p i = true ∧ fb_ct p i = k
  | 0, h => absurd h (Nat.not_lt_zero k)
  | n + 1, h => by
    rcases Nat.lt_or_ge k (fb_ct p n) with q | q
    · obtain ⟨i, h1, h2⟩ := fb_ct_kth q
      exact ⟨i, by omega, h2⟩
    · rw [fb_ct_succ] at h
      cases hp : p n
      · simp [hp] at h; omega
      · simp [hp] at h
        exact ⟨n, by omega, hp, by omega⟩
theorem fb_ct_kth_one {p : Nat → Bool} {i j : Nat} (hi : p i = true) (hj : p j = true) (e : fb_ct p i = fb_ct p j) : i = j := by
  have key : ∀ a b : Nat, a < b → p a = true → fb_ct p a < fb_ct p b := by
    intro a b hab ha
    have h := fb_ct_mono p (show a + 1 ≤ b from hab)
    rw [fb_ct_succ, ha] at h
    simp at h
    omega
  rcases Nat.lt_trichotomy i j with q | q | q
  · have := key i j q hi; omega
  · exact q
  · have := key j i q hj; omega
/-! ===== sums over a range: one place changed, parts, bounds ===== -/
def fb_sm (f : Nat → Nat) : Nat → Nat
  | 0 => 0
  | n + 1 => fb_sm f n + f n
theorem fb_sm_succ (f : Nat → Nat) (n : Nat) : fb_sm f (n + 1) = fb_sm f n + f n := rfl
theorem fb_sm_cong {f g : Nat → Nat} : ∀ {n : Nat}, (∀ k, k < n → f k = g k) → fb_sm f n = fb_sm g n
  | 0, _ => rfl
  | n + 1, h => by rw [fb_sm_succ, fb_sm_succ, fb_sm_cong (fun k hk => h k (by omega)), h n (by omega)]
theorem fb_sm_out (f : Nat → Nat) (v : Nat) {i n : Nat} (h : n ≤ i) : fb_sm (fun k => if k = i then v else f k) n = fb_sm f n :=
  fb_sm_cong fun k hk => if_neg (by omega)
theorem fb_sm_upd (f : Nat → Nat) (v : Nat) {i : Nat} : ∀ {n : Nat}, i < n → fb_sm (fun k => if k = i then v else f k) n + f i = fb_sm f n + v
  | 0, h => absurd h (Nat.not_lt_zero i)
  | n + 1, h => by
    rw [fb_sm_succ, fb_sm_succ]
    rcases Nat.lt_or_ge i n with q | q
    · have := fb_sm_upd f v q
      have e : (if n = i then v else f n) = f n := if_neg (by omega)
      rw [e]
      omega
    · have e : i = n := by omega
      subst e
      rw [fb_sm_out f v (Nat.le_refl _)]
      simp only [if_true]
      omega
theorem fb_sm_add (f g : Nat → Nat) : ∀ n, fb_sm (fun k => f k + g k) n = fb_sm f n + fb_sm g n
  | 0 => rfl
  | n + 1 => by
    have h := fb_sm_add f g n
    rw [fb_sm_succ, fb_sm_succ, fb_sm_succ, h]
    omega
theorem fb_sm_le {f g : Nat → Nat} : ∀ {n : Nat}, (∀ k, k < n → f k ≤ g k) → fb_sm f n ≤ fb_sm g n
  | 0, _ => Nat.le_refl _
  | n + 1, h => by
    have h1 := fb_sm_le (n := n) (f := f) (g := g) (fun k hk => h k (by omega))
    have h2 := h n (by omega)
    rw [fb_sm_succ, fb_sm_succ]
    omega
theorem fb_sm_const (c : Nat) : ∀ n, fb_sm (fun _ => c) n = n * c
  | 0 => by rw [Nat.zero_mul]; rfl
  | n + 1 => by rw [fb_sm_succ, fb_sm_const c n, Nat.succ_mul]
theorem fb_sm_bound {f : Nat → Nat} {c n : Nat} (h : ∀ k, k < n → f k ≤ c) : fb_sm f n ≤ n * c := by
  rw [← fb_sm_const c n]
  exact fb_sm_le h
theorem fb_sm_mono (f : Nat → Nat) (m : Nat) : ∀ n, fb_sm f m ≤ fb_sm f (m + n)
  | 0 => Nat.le_refl _
  | n + 1 => by
    have h := fb_sm_mono f m n
    show fb_sm f m ≤ fb_sm f (m + n + 1)
    rw [fb_sm_succ]
    omega
theorem fb_sm_part (f : Nat → Nat) {i n : Nat} (h : i < n) : fb_sm f i + f i ≤ fb_sm f n := by
  have := fb_sm_mono f (i + 1) (n - (i + 1))
  rw [fb_sm_succ, show i + 1 + (n - (i + 1)) = n by omega] at this
  exact this
theorem fb_sm_split (f : Nat → Nat) (m : Nat) : ∀ n, fb_sm f (m + n) = fb_sm f m + fb_sm (fun k => f (m + k)) n
  | 0 => rfl
  | n + 1 => by
    have h := fb_sm_split f m n
    show fb_sm f (m + n + 1) = _
    rw [fb_sm_succ, fb_sm_succ, h, Nat.add_assoc]
theorem fb_sm_zero {f : Nat → Nat} {n : Nat} (h : fb_sm f n = 0) : ∀ k, k < n → f k = 0 := fun k hk => by
  have := fb_sm_part f hk
  omega
/-- the same over whole numbers -/
def fb_si (f : Nat → Int) : Nat → Int
  | 0 => 0
  | n + 1 => fb_si f n + f n
theorem fb_si_succ (f : Nat → Int) (n : Nat) : fb_si f (n + 1) = fb_si f n + f n := rfl
theorem fb_si_cong {f g : Nat → Int} : ∀ {n : Nat}, (∀ k, k < n → f k = g k) → fb_si f n = fb_si g n
  | 0, _ => rfl
  | n + 1, h => by rw [fb_si_succ, fb_si_succ, fb_si_cong (fun k hk => h k (by omega)), h n (by omega)]
theorem fb_si_out (f : Nat → Int) (v : Int) {i n : Nat} (h : n ≤ i) : fb_si (fun k => if k = i then v else f k) n = fb_si f n :=
  fb_si_cong fun k hk => if_neg (by omega)
theorem fb_si_upd (f : Nat → Int) (v : Int) {i : Nat} : ∀ {n : Nat}, i < n → fb_si (fun k => if k = i then v else f k) n = fb_si f n - f i + v
  | 0, h => absurd h (Nat.not_lt_zero i)
  | n + 1, h => by
    rw [fb_si_succ, fb_si_succ]
    rcases Nat.lt_or_ge i n with q | q
    · have := fb_si_upd f v q
      have e : (if n = i then v else f n) = f n := if_neg (by omega)
      rw [e]
      omega
    · have e : i = n := by omega
      subst e
      rw [fb_si_out f v (Nat.le_refl _)]
      simp only [if_true]
      omega
theorem fb_si_add (f g : Nat → Int) : ∀ n, fb_si (fun k => f k + g k) n = fb_si f n + fb_si g n
  | 0 => rfl
  | n + 1 => by
    have h := fb_si_add f g n
    rw [fb_si_succ, fb_si_succ, fb_si_succ, h]
    omega
theorem fb_si_sub (f g : Nat → Int) : ∀ n, fb_si (fun k => f k - g k) n = fb_si f n - fb_si g n
  | 0 => rfl
  | n + 1 => by
    have h := fb_si_sub f g n
    rw [fb_si_succ, fb_si_succ, fb_si_succ, h]
    omega
theorem fb_si_mul (c : Int) (f : Nat → Int) : ∀ n, fb_si (fun k => c * f k) n = c * fb_si f n
  | 0 => (Int.mul_zero c).symm
  | n + 1 => by
    have h := fb_si_mul c f n
    rw [fb_si_succ, fb_si_succ, h, Int.mul_add]
theorem fb_si_split (f : Nat → Int) (m : Nat) : ∀ n, fb_si f (m + n) = fb_si f m + fb_si (fun k => f (m + k)) n
  | 0 => (Int.add_zero _).symm
  | n + 1 => by
    have h := fb_si_split f m n
    show fb_si f (m + n + 1) = _
    rw [fb_si_succ, fb_si_succ, h, Int.add_assoc]
theorem fb_si_nat (f : Nat → Nat) : ∀ n, fb_si (fun k => (f k : Int)) n = (fb_sm f n : Int)
  | 0 => rfl
  | n + 1 => by
    have h := fb_si_nat f n
    rw [fb_si_succ, fb_sm_succ, h]
    omega
theorem fb_si_bound {f : Nat → Int} {c : Int} (hc : 0 ≤ c) : ∀ {n : Nat}, (∀ k, k < n → -c ≤ f k ∧ f k ≤ c) → -(n * c) ≤ fb_si f n ∧ fb_si f n ≤ n * c
  | 0, _ => by simp [fb_si]
  | n + 1, h => by
    have h1 := fb_si_bound (n := n) (f := f) hc (fun k hk => h k (by omega))
    have h2 := h n (by omega)
    have e : ((n + 1 : Nat) : Int) * c = n * c + c := by rw [Int.natCast_add, Int.add_mul]; simp
    rw [fb_si_succ, e]
    omega
/-! ===== bits of a long that isn't negative ===== -/
theorem fb_andL (a b : Nat) : lN a &&& lN b = lN (a &&& b) := by
  apply Int64.toBitVec_inj.1
  show BitVec.ofNat 64 a &&& BitVec.ofNat 64 b = BitVec.ofNat 64 (a &&& b)
  apply BitVec.eq_of_getLsbD_eq
  intro i hi
  simp [hi]
theorem fb_orL (a b : Nat) : lN a ||| lN b = lN (a ||| b) := by
  apply Int64.toBitVec_inj.1
  show BitVec.ofNat 64 a ||| BitVec.ofNat 64 b = BitVec.ofNat 64 (a ||| b)
  apply BitVec.eq_of_getLsbD_eq
  intro i hi
  simp [hi]
theorem fb_xorL (a b : Nat) : lN a ^^^ lN b = lN (a ^^^ b) := by
  apply Int64.toBitVec_inj.1
  show BitVec.ofNat 64 a ^^^ BitVec.ofNat 64 b = BitVec.ofNat 64 (a ^^^ b)
  apply BitVec.eq_of_getLsbD_eq
  intro i hi
  simp [hi]
theorem fb_xorI (a b : Nat) : nI a ^^^ nI b = nI (a ^^^ b) := by
  apply Int32.toBitVec_inj.1
  show BitVec.ofNat 32 a ^^^ BitVec.ofNat 32 b = BitVec.ofNat 32 (a ^^^ b)
  apply BitVec.eq_of_getLsbD_eq
  intro i hi
  simp [hi]
theorem fb_maskL (n k : Nat) : lN n &&& lN (2 ^ k - 1) = lN (n % 2 ^ k) := by rw [fb_andL, Nat.and_two_pow_sub_one_eq_mod]
theorem fb_or_sumL {a k : Nat} (b : Nat) (h : a < 2 ^ k) : lN (2 ^ k * b) ||| lN a = lN (2 ^ k * b + a) := by rw [fb_orL, Nat.two_pow_add_eq_or_of_lt h]
theorem fb_lN_inj {a b : Nat} (ha : a < 2 ^ 63) (hb : b < 2 ^ 63) : lN a = lN b ↔ a = b := by
  constructor
  · intro h
    have h1 : (BitVec.ofNat 64 a).toNat = (BitVec.ofNat 64 b).toNat := congrArg (fun x : Int64 => x.toBitVec.toNat) h
    rw [BitVec.toNat_ofNat, BitVec.toNat_ofNat, Nat.mod_eq_of_lt (by omega), Nat.mod_eq_of_lt (by omega)] at h1
    exact h1
  · rintro rfl; rfl
theorem fb_bit_nat (n j : Nat) : n &&& 2 ^ j = 0 ↔ n.testBit j = false := by
  constructor
  · intro h
    have h1 : (n &&& 2 ^ j).testBit j = false := by rw [h]; simp
    rw [Nat.testBit_and] at h1
    simpa using h1
  · intro h
    apply Nat.eq_of_testBit_eq
    intro i
    rw [Nat.testBit_and]
    by_cases hi : j = i
    · subst hi; simp [h]
    · first | (simp [Nat.testBit_two_pow, hi]; done) | (simp [Nat.testBit_two_pow_of_ne hi]; done)
/-- one bit of a long -/
theorem fb_bitL {n j : Nat} (hj : j < 63) : lN n &&& lN (2 ^ j) = 0 ↔ n.testBit j = false := by
  have h2 : (2 : Nat) ^ j < 2 ^ 63 := Nat.pow_lt_pow_right (by decide) hj
  have hle : n &&& 2 ^ j ≤ 2 ^ j := Nat.and_le_right
  rw [fb_andL, ← fb_bit_nat, show (0 : Int64) = lN 0 from rfl]
  exact fb_lN_inj (by omega) (by decide)
/-- a bit set, a bit taken off -/
theorem fb_bit_set (n j i : Nat) : (n ||| 2 ^ j).testBit i = (n.testBit i || decide (i = j)) := by
  rw [Nat.testBit_or]
  by_cases h : j = i
  · subst h; simp
  · have h2 : ¬ i = j := fun e => h e.symm
    first | (simp [Nat.testBit_two_pow, h, h2]; done) | (simp [Nat.testBit_two_pow_of_ne h, h2]; done)
theorem fb_bit_flip (n j i : Nat) : (n ^^^ 2 ^ j).testBit i = (n.testBit i ^^ decide (i = j)) := by
  rw [Nat.testBit_xor]
  by_cases h : j = i
  · subst h; simp
  · have h2 : ¬ i = j := fun e => h e.symm
    first | (simp [Nat.testBit_two_pow, h, h2]; done) | (simp [Nat.testBit_two_pow_of_ne h, h2]; done)
/-! ===== a stretch of an array written over by a function ===== -/
def fb_put {α : Type} (f g : Nat → α) (a n : Nat) : Nat → α := fun k => if a ≤ k ∧ k < a + n then g (k - a) else f k
theorem fb_put_0 {α : Type} (f g : Nat → α) (a : Nat) : fb_put f g a 0 = f := funext fun k => if_neg (by omega)
theorem fb_put_in {α : Type} {f g : Nat → α} {a n k : Nat} (h1 : a ≤ k) (h2 : k < a + n) : fb_put f g a n k = g (k - a) := if_pos ⟨h1, h2⟩
theorem fb_put_out {α : Type} {f g : Nat → α} {a n k : Nat} (h : k < a ∨ a + n ≤ k) : fb_put f g a n k = f k := if_neg (by omega)
theorem fb_put_succ (f g : Nat → Int32) (a n : Nat) : upd (fb_put f g a n) (a + n) (g n) = fb_put f g a (n + 1) := by
  funext k
  by_cases h : k = a + n
  · subst h
    simp [upd, fb_put]
  · by_cases h1 : a ≤ k ∧ k < a + n
    · have h2 : a ≤ k ∧ k < a + (n + 1) := by omega
      simp only [upd, fb_put, if_neg h, if_pos h1, if_pos h2]
    · have h2 : ¬ (a ≤ k ∧ k < a + (n + 1)) := by omega
      simp only [upd, fb_put, if_neg h, if_neg h1, if_neg h2]
/-- .. from the far end down -/
theorem fb_put_down (f g : Nat → Int32) {a n m : Nat} (h : m < n) : upd (fb_put f (fun k => g (k + (m + 1))) (a + (m + 1)) (n - (m + 1))) (a + m) (g m) = fb_put f (fun k => g (k + m)) (a + m) (n - m) := by
  funext k
  by_cases h0 : k = a + m
  · subst h0
    simp only [upd, if_true]
    rw [fb_put_in (by omega) (by omega)]
    exact congrArg g (by omega)
  · simp only [upd, if_neg h0]
    by_cases h1 : a + (m + 1) ≤ k ∧ k < a + (m + 1) + (n - (m + 1))
    · rw [fb_put_in h1.1 h1.2, fb_put_in (by omega) (by omega)]
      exact congrArg g (by omega)
    · rw [fb_put_out (by omega), fb_put_out (by omega)]
theorem fb_put_cong {α : Type} {f f2 g g2 : Nat → α} {a n : Nat} (hf : ∀ k, (k < a ∨ a + n ≤ k) → f k = f2 k) (hg : ∀ k, k < n → g k = g2 k) : fb_put f g a n = fb_put f2 g2 a n := by
  funext k
  by_cases h : a ≤ k ∧ k < a + n
  · rw [fb_put_in h.1 h.2, fb_put_in h.1 h.2, hg _ (by omega)]
  · rw [fb_put_out (by omega), fb_put_out (by omega), hf _ (by omega)]
/-! ===== the least, the first, the best so far; that there is one alone ===== -/
theorem fb_first {p : Nat → Prop} [DecidablePred p] : ∀ {n : Nat}, (∃ i, i < n ∧ p i) → ∃ i, i < n ∧ p i ∧ ∀ j, j < i → ¬ p j
  | 0, h => by obtain ⟨i, hi, -⟩ := h; exact absurd hi (Nat.not_lt_zero i)
  | n + 1, h => by
    by_cases q : ∃ i, i < n ∧ p i
    · obtain ⟨i, h1, h2⟩ := fb_first q
      exact ⟨i, by omega, h2⟩
    · obtain ⟨i, h1, h2⟩ := h
      have e : i = n := by
        rcases Nat.lt_or_ge i n with r | r
        · exact absurd ⟨i, r, h2⟩ q
        · omega
      subst e
      exact ⟨i, by omega, h2, fun j hj hp => q ⟨j, hj, hp⟩⟩
theorem fb_first_one {p : Nat → Prop} {i j : Nat} (hi : p i) (hi2 : ∀ k, k < i → ¬ p k) (hj : p j) (hj2 : ∀ k, k < j → ¬ p k) : i = j := by
  rcases Nat.lt_trichotomy i j with q | q | q
  · exact absurd hi (hj2 i q)
  · exact q
  · exact absurd hj (hi2 j q)
theorem fb_last {p : Nat → Prop} [DecidablePred p] : ∀ {n : Nat}, (∃ i, i < n ∧ p i) → ∃ i, i < n ∧ p i ∧ ∀ j, i < j → j < n → ¬ p j
  | 0, h => by obtain ⟨i, hi, -⟩ := h; exact absurd hi (Nat.not_lt_zero i)
  | n + 1, h => by
    by_cases q : p n
    · exact ⟨n, by omega, q, fun j h1 h2 => by omega⟩
    · obtain ⟨i, h1, h2⟩ := h
      have hi : i < n := by
        rcases Nat.lt_or_ge i n with r | r
        · exact r
        · have e : i = n := by omega
          subst e
          exact absurd h2 q
      obtain ⟨i2, a1, a2, a3⟩ := fb_last (n := n) ⟨i, hi, h2⟩
      refine ⟨i2, by omega, a2, fun j b1 b2 => ?_⟩
      rcases Nat.lt_or_ge j n with r | r
      · exact a3 j b1 r
      · have e : j = n := by omega
        subst e
        exact q
/-- the first greatest -/
theorem fb_best (f : Nat → Int) : ∀ {n : Nat}, 0 < n → ∃ i, i < n ∧ (∀ j, j < n → f j ≤ f i) ∧ ∀ j, j < i → f j < f i
  | 0, h => absurd h (Nat.lt_irrefl 0)
  | 1, _ => ⟨0, by omega, fun j hj => by have e : j = 0 := by omega
                                         subst e; exact Int.le_refl _, fun j hj => absurd hj (Nat.not_lt_zero j)⟩
  | n + 2, _ => by
    obtain ⟨i, h1, h2, h3⟩ := fb_best f (n := n + 1) (by omega)
    by_cases q : f i < f (n + 1)
    · refine ⟨n + 1, by omega, fun j hj => ?_, fun j hj => ?_⟩
      · rcases Nat.lt_or_ge j (n + 1) with r | r
        · have := h2 j r; omega
        · have e : j = n + 1 := by omega
          subst e; exact Int.le_refl _
      · have := h2 j hj; omega
    · refine ⟨i, by omega, fun j hj => ?_, h3⟩
      rcases Nat.lt_or_ge j (n + 1) with r | r
      · exact h2 j r
      · have e : j = n + 1 := by omega
        subst e; omega
theorem fb_best_one {f : Nat → Int} {n i j : Nat} (hi : i < n) (hi2 : ∀ k, k < n → f k ≤ f i) (hi3 : ∀ k, k < i → f k < f i) (hj : j < n) (hj2 : ∀ k, k < n → f k ≤ f j) (hj3 : ∀ k, k < j → f k < f j) : i = j := by
  rcases Nat.lt_trichotomy i j with q | q | q
  · have a := hj3 i q
    have b := hi2 j hj
    omega
  · exact q
  · have a := hi3 j q
    have b := hj2 i hi
    omega
/-- the first least -/
theorem fb_low (f : Nat → Int) {n : Nat} (h : 0 < n) : ∃ i, i < n ∧ (∀ j, j < n → f i ≤ f j) ∧ ∀ j, j < i → f i < f j := by
  obtain ⟨i, h1, h2, h3⟩ := fb_best (fun k => -f k) h
  exact ⟨i, h1, fun j hj => by have := h2 j hj; omega, fun j hj => by have := h3 j hj; omega⟩
/-! ===== signed ints as whole numbers, within bounds ===== -/
theorem fb_rng (x : Int32) : -2147483648 ≤ x.toInt ∧ x.toInt < 2147483648 := by
  have h1 := Int32.le_toInt x
  have h2 := Int32.toInt_lt x
  omega
theorem fb_bmod {z : Int} (h1 : -2147483648 ≤ z) (h2 : z < 2147483648) : z.bmod (2 ^ 32) = z := by
  rw [Int.bmod_eq_of_le (by omega) (by omega)]
theorem fb_addI {x y : Int32} (h1 : -2147483648 ≤ x.toInt + y.toInt) (h2 : x.toInt + y.toInt < 2147483648) : (x + y).toInt = x.toInt + y.toInt := by
  rw [Int32.toInt_add, fb_bmod h1 h2]
theorem fb_subI {x y : Int32} (h1 : -2147483648 ≤ x.toInt - y.toInt) (h2 : x.toInt - y.toInt < 2147483648) : (x - y).toInt = x.toInt - y.toInt := by
  rw [Int32.toInt_sub, fb_bmod h1 h2]
theorem fb_mulI {x y : Int32} (h1 : -2147483648 ≤ x.toInt * y.toInt) (h2 : x.toInt * y.toInt < 2147483648) : (x * y).toInt = x.toInt * y.toInt := by
  rw [Int32.toInt_mul, fb_bmod h1 h2]
theorem fb_negI {x : Int32} (h : x.toInt ≠ -2147483648) : (-x).toInt = -x.toInt := by
  have := fb_rng x
  rw [Int32.toInt_neg, fb_bmod (by omega) (by omega)]
theorem fb_ofI {z : Int} (h1 : -2147483648 ≤ z) (h2 : z < 2147483648) : (Int32.ofInt z).toInt = z := by
  rw [Int32.toInt_ofInt, fb_bmod h1 h2]
theorem fb_asI (x : Int32) : Int32.ofInt x.toInt = x := Int32.ofInt_toInt x
theorem fb_rngL (x : Int64) : -9223372036854775808 ≤ x.toInt ∧ x.toInt < 9223372036854775808 := by
  have h1 := Int64.le_toInt x
  have h2 := Int64.toInt_lt x
  omega
theorem fb_bmodL {z : Int} (h1 : -9223372036854775808 ≤ z) (h2 : z < 9223372036854775808) : z.bmod (2 ^ 64) = z := by
  rw [Int.bmod_eq_of_le (by omega) (by omega)]
theorem fb_addL {x y : Int64} (h1 : -9223372036854775808 ≤ x.toInt + y.toInt) (h2 : x.toInt + y.toInt < 9223372036854775808) : (x + y).toInt = x.toInt + y.toInt := by
  rw [Int64.toInt_add, fb_bmodL h1 h2]
theorem fb_subL {x y : Int64} (h1 : -9223372036854775808 ≤ x.toInt - y.toInt) (h2 : x.toInt - y.toInt < 9223372036854775808) : (x - y).toInt = x.toInt - y.toInt := by
  rw [Int64.toInt_sub, fb_bmodL h1 h2]
theorem fb_mulL {x y : Int64} (h1 : -9223372036854775808 ≤ x.toInt * y.toInt) (h2 : x.toInt * y.toInt < 9223372036854775808) : (x * y).toInt = x.toInt * y.toInt := by
  rw [Int64.toInt_mul, fb_bmodL h1 h2]
/-! ===== cuts of what is narrow already ===== -/
theorem fb_byte {x : Int32} (h1 : -128 ≤ x.toInt) (h2 : x.toInt < 128) : x.toInt8.toInt32 = x := by
  apply Int32.toInt_inj.1
  rw [Int8.toInt_toInt32, Int32.toInt_toInt8, Int.bmod_eq_of_le (by omega) (by omega)]
theorem fb_short {x : Int32} (h1 : -32768 ≤ x.toInt) (h2 : x.toInt < 32768) : x.toInt16.toInt32 = x := by
  apply Int32.toInt_inj.1
  rw [Int16.toInt_toInt32, Int32.toInt_toInt16, Int.bmod_eq_of_le (by omega) (by omega)]
theorem fb_byte_rng (x : Int32) : -128 ≤ x.toInt8.toInt32.toInt ∧ x.toInt8.toInt32.toInt < 128 := by
  rw [Int8.toInt_toInt32]
  have h1 := Int8.le_toInt x.toInt8
  have h2 := Int8.toInt_lt x.toInt8
  omega
theorem fb_short_rng (x : Int32) : -32768 ≤ x.toInt16.toInt32.toInt ∧ x.toInt16.toInt32.toInt < 32768 := by
  rw [Int16.toInt_toInt32]
  have h1 := Int16.le_toInt x.toInt16
  have h2 := Int16.toInt_lt x.toInt16
  omega
theorem fb_byte_twice (x : Int32) : x.toInt8.toInt32.toInt8.toInt32 = x.toInt8.toInt32 := fb_byte (fb_byte_rng x).1 (fb_byte_rng x).2
theorem fb_short_twice (x : Int32) : x.toInt16.toInt32.toInt16.toInt32 = x.toInt16.toInt32 := fb_short (fb_short_rng x).1 (fb_short_rng x).2
theorem fb_char {n : Nat} (h : n < 65536) : (nI n).toUInt32.toUInt16.toUInt32.toInt32 = nI n := by
  apply Int32.toBitVec_inj.1
  apply BitVec.eq_of_toNat_eq
  have e1 : (nI n).toBitVec.toNat = n := by
    show (BitVec.ofNat 32 n).toNat = n
    rw [BitVec.toNat_ofNat, Nat.mod_eq_of_lt (by omega)]
  have e2 : ((nI n).toUInt32.toUInt16.toUInt32).toNat = n := by
    rw [UInt16.toNat_toUInt32, UInt32.toNat_toUInt16]
    show (nI n).toBitVec.toNat % 2 ^ 16 = n
    rw [e1, Nat.mod_eq_of_lt (by omega)]
  rw [e1]
  exact e2
end
section
section KQ
variable {p : Program} {l : Launch} {e : Env} {R : Room} {s : State} {m : MethodId} {args : Array Value} {below : List Frame} {meth : Method} {c : Code} {H : Heap} {locs : List Loc} {cells slots : Nat} {Q : State → Prop} {cc : ByteArray} {pc : Nat} {ls : Array Slot} {rest : List Value} {D : va_G} {ty : List (ClassId × FieldType)} {A : Nat → Prop} {ws : va_W} {a : Nat}
/-- the world at a point: the cells, apart, nothing else written, the classes known, what is new is free -/
def kW (D : va_G) (ty : List (ClassId × FieldType)) (s : State) (A : Nat → Prop) (ws : va_W) (H : Heap) (locs : List Loc) : Prop :=
  va_P D vwCl ws H ∧ va_D A ws ∧ va_S A s.heap H locs ∧ va_K D vwCl ty s ∧ ∀ q : Nat, s.heap.size ≤ q → A q
theorem kW.pick {ws' : va_W} (h : kW D ty s A ws H locs) (is : List Nat) (hn : va_nd is = true) (hs : is.map (fun i => ws[i]?) = ws'.map some) : kW D ty s A ws' H locs := by
  obtain ⟨hP, hD, hS, hK, hA⟩ := h
  refine ⟨hP.sub is ?_, hD.sub is hn hs, hS, hK, hA⟩
  have h1 : is.filterMap (fun i => ws[i]?) = (is.map (fun i => ws[i]?)).filterMap id := by
    rw [List.filterMap_map]; rfl
  rw [h1, hs, List.filterMap_map]
  exact List.filterMap_some
abbrev kty (cI cC cJ _cG : ClassId) : List (ClassId × FieldType) := [(cI, .int), (cC, .char), (cJ, .boolean)]
/-- a loop: an invariant over a state of any kind, a measure that falls -/
theorem k_loop {σ : Type} {nL : Nat} {W' : Heap → List Loc → Array Slot → Prop} (I : σ → Prop) (mu : σ → Nat) (w : σ → va_W) (lv : σ → List (Nat × Value)) (x0 : σ) (h0 : I x0)
    (step : ∀ x : σ, I x → (∀ (x' : σ) (H : Heap) (locs : List Loc) (ls : Array Slot), I x' → mu x' < mu x → kW D ty s A (w x') H locs → lv_has ls nL (lv x') → W' H locs ls) → ∀ (H : Heap) (locs : List Loc) (ls : Array Slot), kW D ty s A (w x) H locs → lv_has ls nL (lv x) → W' H locs ls) :
    ∀ (H : Heap) (locs : List Loc) (ls : Array Slot), kW D ty s A (w x0) H locs → lv_has ls nL (lv x0) → W' H locs ls := by
  have K : ∀ (n : Nat) (x : σ), mu x < n → I x → ∀ (H : Heap) (locs : List Loc) (ls : Array Slot), kW D ty s A (w x) H locs → lv_has ls nL (lv x) → W' H locs ls := by
    intro n
    induction n with
    | zero => intro x h; exact absurd h (Nat.not_lt_zero _)
    | succ n ih =>
      intro x hn hI
      exact step x hI (fun x' H locs ls hI' hm hw hl => ih x' (by omega) hI' H locs ls hw hl)
  exact K (mu x0 + 1) x0 (Nat.lt_succ_self _) h0
/-- a contract's start -/
def kPc (D : va_G) (ty : List (ClassId × FieldType)) (As : List Value) (ws : va_W) (sz : Nat) : Array Value → State → Prop :=
  va_Pc As (fun U => U.heap.size = sz ∧ va_P D vwCl ws U.heap ∧ va_K D vwCl ty U ∧ va_D (fun _ => True) ws)
/-- the world behind a method -/
def kB {S : Type} (D : va_G) (ty : List (ClassId × FieldType)) (ws : va_W) (sz : Nat) (w : S → va_W) : S → State → Prop :=
  fun u t => va_P D vwCl (w u) t.heap ∧ va_K D vwCl ty t ∧ va_D (va_A ws sz) (w u)
def kMi {S : Type} (l : Launch) (y : MethodName) (wm : List Cond) (rm : Room) (D : va_G) (ty : List (ClassId × FieldType)) (As : List Value) (ws : va_W) (sz mc ms : Nat) (post : Int32 → S → Prop) (w : S → va_W) : Prop :=
  Met l y wm rm (kPc D ty As ws sz) (va_Qi post (kB D ty ws sz w) (va_A ws sz)) mc ms (va_A ws sz)
def kMl {S : Type} (l : Launch) (y : MethodName) (wm : List Cond) (rm : Room) (D : va_G) (ty : List (ClassId × FieldType)) (As : List Value) (ws : va_W) (sz mc ms : Nat) (post : Int64 → S → Prop) (w : S → va_W) : Prop :=
  Met l y wm rm (kPc D ty As ws sz) (va_Ql post (kB D ty ws sz w) (va_A ws sz)) mc ms (va_A ws sz)
def kMf {S : Type} (l : Launch) (y : MethodName) (wm : List Cond) (rm : Room) (D : va_G) (ty : List (ClassId × FieldType)) (As : List Value) (ws : va_W) (sz mc ms : Nat) (post : UInt32 → S → Prop) (w : S → va_W) : Prop :=
  Met l y wm rm (kPc D ty As ws sz) (va_Qf post (kB D ty ws sz w) (va_A ws sz)) mc ms (va_A ws sz)
def kMd {S : Type} (l : Launch) (y : MethodName) (wm : List Cond) (rm : Room) (D : va_G) (ty : List (ClassId × FieldType)) (As : List Value) (ws : va_W) (sz mc ms : Nat) (post : UInt64 → S → Prop) (w : S → va_W) : Prop :=
  Met l y wm rm (kPc D ty As ws sz) (va_Qd post (kB D ty ws sz w) (va_A ws sz)) mc ms (va_A ws sz)
def kMv {S : Type} (l : Launch) (y : MethodName) (wm : List Cond) (rm : Room) (D : va_G) (ty : List (ClassId × FieldType)) (As : List Value) (ws : va_W) (sz mc ms : Nat) (post : S → Prop) (w : S → va_W) : Prop :=
  Met l y wm rm (kPc D ty As ws sz) (va_Qv post (kB D ty ws sz w) (va_A ws sz)) mc ms (va_A ws sz)
theorem kPc_blind {As : List Value} {sz : Nat} : FrameBlind (kPc D ty As ws sz) := by
  intro a U g mk q
  obtain ⟨q0, q1, qP, qK, qD⟩ := q
  exact ⟨q0, q1, qP, va_K.moved (u := U) (U := U.calling g mk a) (Vm.Alike.refl U.vm) qK, qD⟩
/-- what holds at a method's entry -/
def kE (p : Program) (s : State) (m : MethodId) (args : Array Value) (meth : Method) (c : Code) (own : String) (cc : ByteArray) (maxL : Nat) (ret : Option FieldType) (wm : List Cond) : Prop :=
  p.tables.exec = Jvm.exec ∧ c.code = cc ∧ meth.sig.returnType = ret ∧ c.maxLocals = maxL ∧ s.vm.findClass own = some m.cls ∧ (∀ w ∈ wm, w.before args s = true) ∧ meth.locks = false
theorem k_ofW {y : MethodName} {wm wm' : List Cond} {rm : Room} {As : List Value} {sz : Nat} {Qc : Array Value → State → Outcome → State → Prop} {mc ms : Nat} {free : Addr → Prop} {maxL : Nat} {ret : Option FieldType} {lv : List (Nat × Value)}
    (hy : plainName y.cls = true) (hwm : wm = Cond.code y cc maxL ret :: wm') (hn : (lg_sl As).length ≤ maxL) (hlv : lv_args 0 As = lv)
    (body : ∀ (p : Program) (e : Env) (s : State) (m : MethodId) (args : Array Value) (below : List Frame) (meth : Method) (c : Code) (ls : Array Slot) (H : Heap) (locs : List Loc), kE p s m args meth c y.cls cc maxL ret wm → sz = s.heap.size → kW D ty s (va_A ws s.heap.size) ws H locs → lv_has ls maxL lv →
      W p l e rm s m args below meth c H locs 0 0 (MQ below Qc args s mc ms free) (F0 m 0 ls [])) : Met l y wm rm (kPc D ty As ws sz) Qc mc ms free := by
  refine Met.ofW (cc := cc) (maxL := maxL) (ret := ret) hy hwm ?_
  intro p e s m args below meth c s₁ B hml hv
  obtain ⟨rfl, hsz, hP, hK, hD0⟩ := hv
  have hD := hD0.self (sz := s.heap.size)
  have hl := lv_entry As (n := maxL) hn
  rw [lg_entry_eq]
  rw [hlv] at hl
  exact body p e s m _ below meth c _ s.heap [] ⟨B.exec, B.bytes, B.returns, hml, findClass_of_methodNamed B.named, atoms_spec (ws := wm) B.pre, B.notSynchronized⟩ hsz.symm ⟨hP, hD, va_S.rf, hK, fun q h => Or.inr h⟩ hl
/-! the ends -/
theorem k_iret {S : Type} {post : Int32 → S → Prop} {w : S → va_W} {ws0 : va_W} {v : Int32} (u : S) (hx : p.tables.exec = Jvm.exec) (hb : c.code = cc) (hr : meth.sig.returnType = some .int) (hlocks : meth.locks = false)
    (hw : kW D ty s (va_A ws0 s.heap.size) (w u) H locs) (hpost : post v u) (hdg : decode cc pc = .ok (.ireturn, 1)) :
    W p l e R s m args below meth c H locs cells slots (MQ below (va_Qi post (kB D ty ws0 s.heap.size w) (va_A ws0 s.heap.size)) args s cells slots (va_A ws0 s.heap.size)) (F0 m pc ls [.int v]) := by
  obtain ⟨hP, hD, hS, hK, -⟩ := hw
  exact W.iret (v := v) hx hb hr (fun t ht hW => ⟨⟨v, u, rfl, hpost, by rw [ht]; exact hP, va_K.moved hW.alike hK, hD⟩, hS.F ht⟩) hS.2.2 hdg hlocks
theorem k_zret {S : Type} {post : Int32 → S → Prop} {w : S → va_W} {ws0 : va_W} {v : Int32} {rt : FieldType} (u : S) (hx : p.tables.exec = Jvm.exec) (hb : c.code = cc) (hr : meth.sig.returnType = some rt) (hn : narrow rt (.int v) = .int v) (hlocks : meth.locks = false)
    (hw : kW D ty s (va_A ws0 s.heap.size) (w u) H locs) (hpost : post v u) (hdg : decode cc pc = .ok (.ireturn, 1)) :
    W p l e R s m args below meth c H locs cells slots (MQ below (va_Qi post (kB D ty ws0 s.heap.size w) (va_A ws0 s.heap.size)) args s cells slots (va_A ws0 s.heap.size)) (F0 m pc ls [.int v]) := by
  obtain ⟨hP, hD, hS, hK, -⟩ := hw
  exact W.zret (v := v) hx hb hr hn (fun t ht hW => ⟨⟨v, u, rfl, hpost, by rw [ht]; exact hP, va_K.moved hW.alike hK, hD⟩, hS.F ht⟩) hS.2.2 hdg hlocks
theorem k_lret {S : Type} {post : Int64 → S → Prop} {w : S → va_W} {ws0 : va_W} {v : Int64} (u : S) (hx : p.tables.exec = Jvm.exec) (hb : c.code = cc) (hr : meth.sig.returnType = some .long) (hlocks : meth.locks = false)
    (hw : kW D ty s (va_A ws0 s.heap.size) (w u) H locs) (hpost : post v u) (hdg : decode cc pc = .ok (.lreturn, 1)) :
    W p l e R s m args below meth c H locs cells slots (MQ below (va_Ql post (kB D ty ws0 s.heap.size w) (va_A ws0 s.heap.size)) args s cells slots (va_A ws0 s.heap.size)) (F0 m pc ls [.long v]) := by
  obtain ⟨hP, hD, hS, hK, -⟩ := hw
  exact W.lret (v := v) hx hb hr (fun t ht hW => ⟨⟨v, u, rfl, hpost, by rw [ht]; exact hP, va_K.moved hW.alike hK, hD⟩, hS.F ht⟩) hS.2.2 hdg hlocks
theorem k_fret {S : Type} {post : UInt32 → S → Prop} {w : S → va_W} {ws0 : va_W} {v : UInt32} (u : S) (hx : p.tables.exec = Jvm.exec) (hb : c.code = cc) (hr : meth.sig.returnType = some .float) (hlocks : meth.locks = false)
    (hw : kW D ty s (va_A ws0 s.heap.size) (w u) H locs) (hpost : post v u) (hdg : decode cc pc = .ok (.freturn, 1)) :
    W p l e R s m args below meth c H locs cells slots (MQ below (va_Qf post (kB D ty ws0 s.heap.size w) (va_A ws0 s.heap.size)) args s cells slots (va_A ws0 s.heap.size)) (F0 m pc ls [.float v]) := by
  obtain ⟨hP, hD, hS, hK, -⟩ := hw
  exact W.fret (v := v) hx hb hr (fun t ht hW => ⟨⟨v, u, rfl, hpost, by rw [ht]; exact hP, va_K.moved hW.alike hK, hD⟩, hS.F ht⟩) hS.2.2 hdg
theorem k_dret {S : Type} {post : UInt64 → S → Prop} {w : S → va_W} {ws0 : va_W} {v : UInt64} (u : S) (hx : p.tables.exec = Jvm.exec) (hb : c.code = cc) (hr : meth.sig.returnType = some .double) (hlocks : meth.locks = false)
    (hw : kW D ty s (va_A ws0 s.heap.size) (w u) H locs) (hpost : post v u) (hdg : decode cc pc = .ok (.dreturn, 1)) :
    W p l e R s m args below meth c H locs cells slots (MQ below (va_Qd post (kB D ty ws0 s.heap.size w) (va_A ws0 s.heap.size)) args s cells slots (va_A ws0 s.heap.size)) (F0 m pc ls [.double v]) := by
  obtain ⟨hP, hD, hS, hK, -⟩ := hw
  exact W.dret (v := v) hx hb hr (fun t ht hW => ⟨⟨v, u, rfl, hpost, by rw [ht]; exact hP, va_K.moved hW.alike hK, hD⟩, hS.F ht⟩) hS.2.2 hdg
theorem k_vret {S : Type} {post : S → Prop} {w : S → va_W} {ws0 : va_W} (u : S) (hx : p.tables.exec = Jvm.exec) (hb : c.code = cc) (hr : meth.sig.returnType = none) (hlocks : meth.locks = false)
    (hw : kW D ty s (va_A ws0 s.heap.size) (w u) H locs) (hpost : post u) (hdg : decode cc pc = .ok (.return_, 1)) :
    W p l e R s m args below meth c H locs cells slots (MQ below (va_Qv post (kB D ty ws0 s.heap.size w) (va_A ws0 s.heap.size)) args s cells slots (va_A ws0 s.heap.size)) (F0 m pc ls []) := by
  obtain ⟨hP, hD, hS, hK, -⟩ := hw
  exact W.vret hx hb hr (fun t ht hW => ⟨⟨u, rfl, hpost, by rw [ht]; exact hP, va_K.moved hW.alike hK, hD⟩, hS.F ht⟩) hS.2.2 hdg hlocks
/-! fields and arrays -/
theorem k_get {own C : String} {T : u_T} {N ci index : Nat} {Ts : List Cond} (hx : p.tables.exec = Jvm.exec) (hb : c.code = cc) (hts : ∀ w ∈ Ts, w.before args s = true) (hin : ∀ w ∈ u_ws C T N, w ∈ Ts) (hown : s.vm.findClass own = some m.cls) (hw : kW D ty s A ws H locs) (q0 k : Nat) {fs : List Value} {v : Value} (he : ws[q0]? = some (a, .inr (ci, fs))) (hc : vwCl[ci]? = some (C, T, N)) (hk : k < N) (hlink : (Cond.fieldLink own index (T k).1 (T k).2.1 (T k).2.2.1).before args s = true) (hv : fs[k]? = some v) (hdg : decode cc pc = .ok (.getfield index, 3))
    (kk : W p l e R s m args below meth c H locs cells slots Q (F0 m (pc + 3) ls (v :: rest))) : W p l e R s m args below meth c H locs cells slots Q (F0 m pc ls (.ref a :: rest)) :=
  va_get hx hb hts hin hown hw.2.2.2.1 hw.1 q0 he hc k hk hlink (fun _ h => h) hv hdg kk
theorem k_put {own C : String} {T : u_T} {N ci index : Nat} {Ts : List Cond} {ws' : va_W} (hx : p.tables.exec = Jvm.exec) (hb : c.code = cc) (hts : ∀ w ∈ Ts, w.before args s = true) (hin : ∀ w ∈ u_ws C T N, w ∈ Ts) {ty0 : Nat → FieldType} (hty : ∀ k, k < N → parseFieldDescriptor (T k).2.2.1 = some (ty0 k)) (hnm : ∀ a, a < N → ∀ b, b < N → a ≠ b → (T a).2.1 ≠ (T b).2.1) (hown : s.vm.findClass own = some m.cls) (hw : kW D ty s A ws H locs) (q0 k : Nat) {fs : List Value} {v : Value} (he : ws[q0]? = some (a, .inr (ci, fs))) (hc : vwCl[ci]? = some (C, T, N)) (hk : k < N) (hlink : (Cond.fieldLink own index (T k).1 (T k).2.1 (T k).2.2.1).before args s = true) (hfin : (T k).2.2.2 = false) (hn : narrow (ty0 k) v = v) (hfit : fits (ty0 k) v = true) (hl : k < fs.length) (hws : ws.set q0 (a, .inr (ci, fs.set k v)) = ws') (hdg : decode cc pc = .ok (.putfield index, 3))
    (kk : ∀ (H1 : Heap) (locs1 : List Loc), kW D ty s A ws' H1 locs1 → W p l e R s m args below meth c H1 locs1 cells slots Q (F0 m (pc + 3) ls rest)) : W p l e R s m args below meth c H locs cells slots Q (F0 m pc ls (v :: .ref a :: rest)) := by
  subst hws
  exact va_put hx hb hts hin ty0 hty hnm hown hw.2.2.2.1 hw.1 hw.2.1 hw.2.2.1 q0 he hc k hk hlink (fun _ h => h) hfin (hty k hk) hn hfit hl hdg (fun H1 locs1 h1 h2 h3 => kk H1 locs1 ⟨h1, h2, h3, hw.2.2.2⟩)
theorem k_putF {own C : String} {T : u_T} {N ci index : Nat} {Ts : List Cond} {ws' : va_W} (hx : p.tables.exec = Jvm.exec) (hb : c.code = cc) (hts : ∀ w ∈ Ts, w.before args s = true) (hin : ∀ w ∈ u_ws C T N, w ∈ Ts) {ty0 : Nat → FieldType} (hty : ∀ k, k < N → parseFieldDescriptor (T k).2.2.1 = some (ty0 k)) (hnm : ∀ a, a < N → ∀ b, b < N → a ≠ b → (T a).2.1 ≠ (T b).2.1) (hown : s.vm.findClass own = some m.cls) (hw : kW D ty s A ws H locs) (q0 k : Nat) {fs : List Value} {v : Value} (he : ws[q0]? = some (a, .inr (ci, fs))) (hc : vwCl[ci]? = some (C, T, N)) (hk : k < N) (hlink : (Cond.fieldLink own index (T k).1 (T k).2.1 (T k).2.2.1).before args s = true) (hfin : (T k).2.2.2 = true) (hin2 : meth.name = "<init>") (hdecl : (T k).1 = own) (hn : narrow (ty0 k) v = v) (hfit : fits (ty0 k) v = true) (hl : k < fs.length) (hws : ws.set q0 (a, .inr (ci, fs.set k v)) = ws') (hdg : decode cc pc = .ok (.putfield index, 3))
    (kk : ∀ (H1 : Heap) (locs1 : List Loc), kW D ty s A ws' H1 locs1 → W p l e R s m args below meth c H1 locs1 cells slots Q (F0 m (pc + 3) ls rest)) : W p l e R s m args below meth c H locs cells slots Q (F0 m pc ls (v :: .ref a :: rest)) := by
  subst hws
  exact va_putF hx hb hts hin ty0 hty hnm hown hw.2.2.2.1 hw.1 hw.2.1 hw.2.2.1 q0 he hc k hk hlink (fun _ h => h) hfin hin2 hdecl (hty k hk) hn hfit hl hdg (fun H1 locs1 h1 h2 h3 => kk H1 locs1 ⟨h1, h2, h3, hw.2.2.2⟩)
theorem k_in {i : Int32} {j n : Nat} (hi : i = nI j) (hj : j < n) (hn : n < 2 ^ 31) : vp_in i n ∧ i.toNatClampNeg = j := by
  subst hi
  exact ⟨vp_in_nI hj hn, nI_clamp (by omega)⟩
theorem k_iald (hx : p.tables.exec = Jvm.exec) (hb : c.code = cc) (hw : kW D ty s A ws H locs) (q0 t0 : Nat) {cA : ClassId} {n : Nat} {f : Nat → Int32} (ha : ws[q0]? = some (a, .inl (cA, n, .inl f))) (ht : ty[t0]? = some (cA, .int)) {i : Int32} (j : Nat) (hi : i = nI j) (hj : j < n) (hn : n < 2 ^ 31) (hdg : decode cc pc = .ok (.iaload, 1))
    (kk : W p l e R s m args below meth c H locs cells slots Q (F0 m (pc + 1) ls (.int (f j) :: rest))) : W p l e R s m args below meth c H locs cells slots Q (F0 m pc ls (.int i :: .ref a :: rest)) := by
  obtain ⟨h1, h2⟩ := k_in hi hj hn
  exact va_iald hx hb hw.2.2.2.1 hw.1 q0 t0 ha ht h1 hdg (by rw [h2]; exact kk)
theorem k_cald (hx : p.tables.exec = Jvm.exec) (hb : c.code = cc) (hw : kW D ty s A ws H locs) (q0 t0 : Nat) {cA : ClassId} {n : Nat} {f : Nat → Int32} (ha : ws[q0]? = some (a, .inl (cA, n, .inl f))) (ht : ty[t0]? = some (cA, .char)) {i : Int32} (j : Nat) (hi : i = nI j) (hj : j < n) (hn : n < 2 ^ 31) (hdg : decode cc pc = .ok (.caload, 1))
    (kk : W p l e R s m args below meth c H locs cells slots Q (F0 m (pc + 1) ls (.int (f j) :: rest))) : W p l e R s m args below meth c H locs cells slots Q (F0 m pc ls (.int i :: .ref a :: rest)) := by
  obtain ⟨h1, h2⟩ := k_in hi hj hn
  exact va_cald hx hb hw.2.2.2.1 hw.1 q0 t0 ha ht h1 hdg (by rw [h2]; exact kk)
theorem k_lald (hx : p.tables.exec = Jvm.exec) (hb : c.code = cc) (hw : kW D ty s A ws H locs) (q0 t0 : Nat) {cA : ClassId} {n : Nat} {f : Nat → Int64} (ha : ws[q0]? = some (a, .inl (cA, n, .inr (.inl f)))) (ht : ty[t0]? = some (cA, .long)) {i : Int32} (j : Nat) (hi : i = nI j) (hj : j < n) (hn : n < 2 ^ 31) (hdg : decode cc pc = .ok (.laload, 1))
    (kk : W p l e R s m args below meth c H locs cells slots Q (F0 m (pc + 1) ls (.long (f j) :: rest))) : W p l e R s m args below meth c H locs cells slots Q (F0 m pc ls (.int i :: .ref a :: rest)) := by
  obtain ⟨h1, h2⟩ := k_in hi hj hn
  exact va_lald hx hb hw.2.2.2.1 hw.1 q0 t0 ha ht h1 hdg (by rw [h2]; exact kk)
theorem k_dald (hx : p.tables.exec = Jvm.exec) (hb : c.code = cc) (hw : kW D ty s A ws H locs) (q0 t0 : Nat) {cA : ClassId} {n : Nat} {f : Nat → UInt64} (ha : ws[q0]? = some (a, .inl (cA, n, .inr (.inr (.inr (.inl f)))))) (ht : ty[t0]? = some (cA, .double)) {i : Int32} (j : Nat) (hi : i = nI j) (hj : j < n) (hn : n < 2 ^ 31) (hdg : decode cc pc = .ok (.daload, 1))
    (kk : W p l e R s m args below meth c H locs cells slots Q (F0 m (pc + 1) ls (.double (f j) :: rest))) : W p l e R s m args below meth c H locs cells slots Q (F0 m pc ls (.int i :: .ref a :: rest)) := by
  obtain ⟨h1, h2⟩ := k_in hi hj hn
  exact va_dald hx hb hw.2.2.2.1 hw.1 q0 t0 ha ht h1 hdg (by rw [h2]; exact kk)
theorem k_iast {ws' : va_W} (hx : p.tables.exec = Jvm.exec) (hb : c.code = cc) (hw : kW D ty s A ws H locs) (q0 t0 : Nat) {cA : ClassId} {n : Nat} {f : Nat → Int32} (ha : ws[q0]? = some (a, .inl (cA, n, .inl f))) (ht : ty[t0]? = some (cA, .int)) {i x : Int32} (j : Nat) (hi : i = nI j) (hj : j < n) (hn : n < 2 ^ 31) (hws : ws.set q0 (a, .inl (cA, n, .inl (upd f j x))) = ws') (hdg : decode cc pc = .ok (.iastore, 1))
    (kk : ∀ (H1 : Heap) (locs1 : List Loc), kW D ty s A ws' H1 locs1 → W p l e R s m args below meth c H1 locs1 cells slots Q (F0 m (pc + 1) ls rest)) : W p l e R s m args below meth c H locs cells slots Q (F0 m pc ls (.int x :: .int i :: .ref a :: rest)) := by
  obtain ⟨h1, h2⟩ := k_in hi hj hn
  subst hws
  exact va_iast hx hb hw.2.2.2.1 hw.1 hw.2.1 hw.2.2.1 q0 t0 ha ht h1 hdg (fun H1 locs1 g1 g2 g3 => kk H1 locs1 (by rw [h2] at g1 g2; exact ⟨g1, g2, g3, hw.2.2.2⟩))
theorem k_cast {ws' : va_W} (hx : p.tables.exec = Jvm.exec) (hb : c.code = cc) (hw : kW D ty s A ws H locs) (q0 t0 : Nat) {cA : ClassId} {n : Nat} {f : Nat → Int32} (ha : ws[q0]? = some (a, .inl (cA, n, .inl f))) (ht : ty[t0]? = some (cA, .char)) {i x : Int32} (j : Nat) (hi : i = nI j) (hj : j < n) (hn : n < 2 ^ 31) (hx2 : vp_nar .char x = x) (hws : ws.set q0 (a, .inl (cA, n, .inl (upd f j x))) = ws') (hdg : decode cc pc = .ok (.castore, 1))
    (kk : ∀ (H1 : Heap) (locs1 : List Loc), kW D ty s A ws' H1 locs1 → W p l e R s m args below meth c H1 locs1 cells slots Q (F0 m (pc + 1) ls rest)) : W p l e R s m args below meth c H locs cells slots Q (F0 m pc ls (.int x :: .int i :: .ref a :: rest)) := by
  obtain ⟨h1, h2⟩ := k_in hi hj hn
  subst hws
  exact va_cast hx hb hw.2.2.2.1 hw.1 hw.2.1 hw.2.2.1 q0 t0 ha ht h1 hdg (fun H1 locs1 g1 g2 g3 => kk H1 locs1 (by rw [h2, hx2] at g1 g2; exact ⟨g1, g2, g3, hw.2.2.2⟩))
theorem k_last {ws' : va_W} (hx : p.tables.exec = Jvm.exec) (hb : c.code = cc) (hw : kW D ty s A ws H locs) (q0 t0 : Nat) {cA : ClassId} {n : Nat} {f : Nat → Int64} (ha : ws[q0]? = some (a, .inl (cA, n, .inr (.inl f)))) (ht : ty[t0]? = some (cA, .long)) {i : Int32} {x : Int64} (j : Nat) (hi : i = nI j) (hj : j < n) (hn : n < 2 ^ 31) (hws : ws.set q0 (a, .inl (cA, n, .inr (.inl (vp_updL f j x)))) = ws') (hdg : decode cc pc = .ok (.lastore, 1))
    (kk : ∀ (H1 : Heap) (locs1 : List Loc), kW D ty s A ws' H1 locs1 → W p l e R s m args below meth c H1 locs1 cells slots Q (F0 m (pc + 1) ls rest)) : W p l e R s m args below meth c H locs cells slots Q (F0 m pc ls (.long x :: .int i :: .ref a :: rest)) := by
  obtain ⟨h1, h2⟩ := k_in hi hj hn
  subst hws
  exact va_last hx hb hw.2.2.2.1 hw.1 hw.2.1 hw.2.2.1 q0 t0 ha ht h1 hdg (fun H1 locs1 g1 g2 g3 => kk H1 locs1 (by rw [h2] at g1 g2; exact ⟨g1, g2, g3, hw.2.2.2⟩))
theorem k_dast {ws' : va_W} (hx : p.tables.exec = Jvm.exec) (hb : c.code = cc) (hw : kW D ty s A ws H locs) (q0 t0 : Nat) {cA : ClassId} {n : Nat} {f : Nat → UInt64} (ha : ws[q0]? = some (a, .inl (cA, n, .inr (.inr (.inr (.inl f)))))) (ht : ty[t0]? = some (cA, .double)) {i : Int32} {x : UInt64} (j : Nat) (hi : i = nI j) (hj : j < n) (hn : n < 2 ^ 31) (hws : ws.set q0 (a, .inl (cA, n, .inr (.inr (.inr (.inl (vf_upd f j x)))))) = ws') (hdg : decode cc pc = .ok (.dastore, 1))
    (kk : ∀ (H1 : Heap) (locs1 : List Loc), kW D ty s A ws' H1 locs1 → W p l e R s m args below meth c H1 locs1 cells slots Q (F0 m (pc + 1) ls rest)) : W p l e R s m args below meth c H locs cells slots Q (F0 m pc ls (.double x :: .int i :: .ref a :: rest)) := by
  obtain ⟨h1, h2⟩ := k_in hi hj hn
  subst hws
  exact va_dast hx hb hw.2.2.2.1 hw.1 hw.2.1 hw.2.2.1 q0 t0 ha ht h1 hdg (fun H1 locs1 g1 g2 g3 => kk H1 locs1 (by rw [h2] at g1 g2; exact ⟨g1, g2, g3, hw.2.2.2⟩))
theorem k_lt {a b : Nat} (c : ¬ nI b ≤ nI a) (ha : a < 2 ^ 31) (hb : b < 2 ^ 31) : a < b := by
  rcases Nat.lt_or_ge a b with q | q
  · exact q
  · exact absurd ((nI_leI hb ha).mpr q) c
theorem k_le {a b : Nat} (c : nI b ≤ nI a) (ha : a < 2 ^ 31) (hb : b < 2 ^ 31) : b ≤ a := (nI_leI hb ha).mp c
/-- the top of the stack by another text -/
theorem k_eqi {x y : Int32} (h : x = y) (k : W p l e R s m args below meth c H locs cells slots Q (F0 m pc ls (.int y :: rest))) : W p l e R s m args below meth c H locs cells slots Q (F0 m pc ls (.int x :: rest)) := by
  rw [h]; exact k
theorem k_eql {x y : Int64} (h : x = y) (k : W p l e R s m args below meth c H locs cells slots Q (F0 m pc ls (.long y :: rest))) : W p l e R s m args below meth c H locs cells slots Q (F0 m pc ls (.long x :: rest)) := by
  rw [h]; exact k
theorem k_copy {ws' : va_W} {own : String} {index : Nat} (hx : p.tables.exec = Jvm.exec) (hb : c.code = cc) (hml : c.maxLocals = ls.size) (hown : s.vm.findClass own = some m.cls) (hlink : (Cond.methodLink own index arraycopyName).before args s = true) (hnat : (Cond.native arraycopyName).before args s = true) (hstat : (Cond.static arraycopyName).before args s = true) (hini : (Cond.initialized "java/lang/System").before args s = true)
    (hw : kW D ty s A ws H locs) (q0 q1 t0 : Nat) {a0 : Nat} {cA : ClassId} {n0 n1 : Nat} {f g : Nat → Int32} (ha0 : ws[q0]? = some (a0, .inl (cA, n0, .inl f))) (ha1 : ws[q1]? = some (a, .inl (cA, n1, .inl g))) (ht : ty[t0]? = some (cA, .int)) (N : Nat) {n : Int32} (hn : n = nI N) (h0 : N ≤ n0) (h1 : N ≤ n1) (hN : N < 2 ^ 31) (hws : ws.set q1 (a, .inl (cA, n1, .inl (va_cpy f g 0 0 N))) = ws')
    (hframes : 1 ≤ R.frames) (hlocals : (rest.map fun v => v.category).sum + (nativeFrameWords "java/lang/System" "arraycopy" 5 + 11) ≤ R.locals) (hdg : decode cc pc = .ok (.invokestatic index, 3))
    (kk : ∀ (H1 : Heap) (locs1 : List Loc), kW D ty s A ws' H1 locs1 → W p l e R s m args below meth c H1 locs1 cells slots Q (F0 m (pc + 3) ls rest)) : W p l e R s m args below meth c H locs cells slots Q (F0 m pc ls (.int n :: .int 0 :: .ref a :: .int 0 :: .ref a0 :: rest)) := by
  subst hn
  subst hws
  have e0 : (0 : Int32).toNatClampNeg = 0 := by decide
  have eN : (nI N).toNatClampNeg = N := nI_clamp hN
  refine va_copyi hx hb hml hown hlink hnat hstat hini hw.2.2.2.1 hw.1 hw.2.1 hw.2.2.1 q0 q1 t0 t0 ha0 ha1 ht ht rfl (by decide) (by decide) (nI_pos hN) (by rw [e0, eN]; omega) (by rw [e0, eN]; omega) (fun _ _ => rfl) hframes hlocals hdg (fun H1 locs1 g1 g2 g3 => kk H1 locs1 ?_)
  rw [e0, eN] at g1 g2
  exact ⟨g1, g2, g3, hw.2.2.2⟩
/-! calls: the callee's cells are wc, at the places isC; the others wr, at isR; behind the call the world is wr and the callee's -/
theorem k_ans {S : Type} {wc wr : va_W} {w : S → va_W} {u : S} {t : State} {H1 : Heap} {locs1 : List Loc} (hw : kW D ty s A ws H locs) (isC isR : List Nat) (hC : isC.map (fun i => ws[i]?) = wc.map some) (hR : isR.map (fun i => ws[i]?) = wr.map some) (hn : va_nd isR = true) (hdis : ∀ i ∈ isR, i ∉ isC)
    (ht : t.heap = H1) (hB : kB D ty wc H.size w u t) (hk1 : ∀ q : Nat, q < H.size → ¬ va_A wc H.size q → H1[q]? = H[q]?) (hS1 : va_S A s.heap H1 locs1) : kW D ty s A (wr ++ w u) H1 locs1 := by
  obtain ⟨hP, hD, hS, hK, hA⟩ := hw
  obtain ⟨hP1, -, hD1⟩ := hB
  rw [ht] at hP1
  obtain ⟨h1, h2⟩ := va_join hP hD isC isR hC hR hn hdis hk1 (va_free hD hS hA isC hC) hP1 hD1
  exact ⟨h1, h2, hS1, hK, hA⟩
theorem k_pre {As : List Value} {wc : va_W} (hw : kW D ty s A ws H locs) (isC : List Nat) (hndC : va_nd isC = true) (hC : isC.map (fun i => ws[i]?) = wc.map some) : PreS s H (kPc D ty As wc H.size) As := by
  obtain ⟨hP, hD, hS, hK, hA⟩ := kW.pick hw isC hndC hC
  exact ⟨kPc_blind, fun U hU hW => ⟨rfl, by rw [hU], by rw [hU]; exact hP, va_K.moved hW.alike hK, hD.weaken (fun _ _ _ _ => trivial)⟩⟩
theorem k_preV {b : Nat} {As : List Value} {wc : va_W} {C : String} {T : u_T} {N ci : Nat} {fs : List Value} (hw : kW D ty s A ws H locs) (isC : List Nat) (hndC : va_nd isC = true) (hC : isC.map (fun i => ws[i]?) = wc.map some) (q0 : Nat) (he : ws[q0]? = some (b, .inr (ci, fs))) (hc : vwCl[ci]? = some (C, T, N)) : PreV s H C b (kPc D ty (.ref b :: As) wc H.size) As := by
  obtain ⟨h1, h2⟩ := k_pre (As := .ref b :: As) hw isC hndC hC
  exact ⟨h1, va_recv hw.2.2.2.1 hw.1 hc he, h2⟩
section KC
variable {Ts wm : List Cond} {bytes : ByteArray} {nL maxL index n mc ms : Nat} {own C : String} {y : MethodName} {ret : Option FieldType} {rm : Room} {b : Addr} {As : List Value} {st0 : List Value} {S : Type} {wc wr : va_W} {w : S → va_W}
theorem k_runV {Qc : Array Value → State → Outcome → State → Prop} {free : Addr → Prop} {T : u_T} {N ci : Nat} {fs : List Value} (hS : CallFix p m c cc nL s args Ts own) (hM : Met l y wm rm (kPc D ty (.ref b :: As) wc H.size) Qc mc ms free) (cw : CallW R s args own C index y bytes maxL ret wm rm mc ms n) (hw : kW D ty s A ws H locs) (isC : List Nat) (hndC : va_nd isC = true) (hC : isC.map (fun i => ws[i]?) = wc.map some) (q0 : Nat) (he : ws[q0]? = some (b, .inr (ci, fs))) (hc : vwCl[ci]? = some (C, T, N))
    (hn : As.length = n) (hsize : ls.size = nL) (hst : st0 = As.reverse ++ .ref b :: rest) (hrest : (rest.map fun v => v.category).sum ≤ 8) (hdg : decode cc pc = .ok (.invokevirtual index, 3)) (hf : cells + mc ≤ R.cells ∧ slots + ms ≤ R.slots) :
    va_Run p l e R s m args below meth c H locs cells slots mc ms (F0 m pc ls st0) rest (Qc (Value.ref b :: As).toArray) free :=
  va_runV hS hM cw (k_preV hw isC hndC hC q0 he hc) rfl hn hsize hst (lv_room hrest) hdg hf
theorem k_runS {Qc : Array Value → State → Outcome → State → Prop} {free : Addr → Prop} (hS : CallFix p m c cc nL s args Ts own) (hM : Met l y wm rm (kPc D ty As wc H.size) Qc mc ms free) (cw : CallB R s args own index y bytes maxL ret wm rm mc ms n ∧ (Cond.static y).before args s = true) (hw : kW D ty s A ws H locs) (isC : List Nat) (hndC : va_nd isC = true) (hC : isC.map (fun i => ws[i]?) = wc.map some)
    (hn : As.length = n) (hsize : ls.size = nL) (hst : st0 = As.reverse ++ rest) (hrest : (rest.map fun v => v.category).sum ≤ 8) (hdg : decode cc pc = .ok (.invokestatic index, 3)) (hf : cells + mc ≤ R.cells ∧ slots + ms ≤ R.slots) :
    va_Run p l e R s m args below meth c H locs cells slots mc ms (F0 m pc ls st0) rest (Qc As.toArray) free :=
  va_runS hS hM cw (k_pre hw isC hndC hC) rfl hn hsize hst (lv_room hrest) hdg hf
theorem k_runI {Qc : Array Value → State → Outcome → State → Prop} {free : Addr → Prop} (hS : CallFix p m c cc nL s args Ts own) (hM : Met l y wm rm (kPc D ty (.ref b :: As) wc H.size) Qc mc ms free) (cw : CallB R s args own index y bytes maxL none wm rm mc ms n ∧ y.name = "<init>" ∧ (Cond.instanceMethod y).before args s = true) (hw : kW D ty s A ws H locs) (isC : List Nat) (hndC : va_nd isC = true) (hC : isC.map (fun i => ws[i]?) = wc.map some)
    (hn : As.length = n) (hsize : ls.size = nL) (hst : st0 = As.reverse ++ .ref b :: rest) (hrest : (rest.map fun v => v.category).sum ≤ 8) (hdg : decode cc pc = .ok (.invokespecial index, 3)) (hf : cells + mc ≤ R.cells ∧ slots + ms ≤ R.slots) :
    va_Run p l e R s m args below meth c H locs cells slots mc ms (F0 m pc ls st0) rest (Qc (Value.ref b :: As).toArray) free :=
  va_runI hS hM cw (k_pre hw isC hndC hC) rfl hn hsize hst (lv_room hrest) hdg hf
theorem k_calli {post : Int32 → S → Prop} {aa : Array Value} (hr : va_Run p l e R s m args below meth c H locs cells slots mc ms (F0 m pc ls st0) rest (va_Qi post (kB D ty wc H.size w) (va_A wc H.size) aa) (va_A wc H.size)) (hw : kW D ty s A ws H locs) (isC isR : List Nat) (hC : isC.map (fun i => ws[i]?) = wc.map some) (hR : isR.map (fun i => ws[i]?) = wr.map some) (hn : va_nd isR = true) (hdis : ∀ i ∈ isR, i ∉ isC)
    (kk : ∀ (r : Int32) (u : S) (H1 : Heap) (locs1 : List Loc), post r u → kW D ty s A (wr ++ w u) H1 locs1 → W p l e R s m args below meth c H1 locs1 (cells + mc) (slots + ms) Q (F0 m (pc + 3) ls (.int r :: rest))) : W p l e R s m args below meth c H locs cells slots Q (F0 m pc ls st0) :=
  va_calli hr hw.2.2.1 (fun q _ h => va_free hw.2.1 hw.2.2.1 hw.2.2.2.2 isC hC q h) (va_free hw.2.1 hw.2.2.1 hw.2.2.2.2 isC hC) (fun r u t H1 locs1 ht _ hp hB _ hk1 hS1 => kk r u H1 locs1 hp (k_ans hw isC isR hC hR hn hdis ht hB hk1 hS1))
theorem k_calll {post : Int64 → S → Prop} {aa : Array Value} (hr : va_Run p l e R s m args below meth c H locs cells slots mc ms (F0 m pc ls st0) rest (va_Ql post (kB D ty wc H.size w) (va_A wc H.size) aa) (va_A wc H.size)) (hw : kW D ty s A ws H locs) (isC isR : List Nat) (hC : isC.map (fun i => ws[i]?) = wc.map some) (hR : isR.map (fun i => ws[i]?) = wr.map some) (hn : va_nd isR = true) (hdis : ∀ i ∈ isR, i ∉ isC)
    (kk : ∀ (r : Int64) (u : S) (H1 : Heap) (locs1 : List Loc), post r u → kW D ty s A (wr ++ w u) H1 locs1 → W p l e R s m args below meth c H1 locs1 (cells + mc) (slots + ms) Q (F0 m (pc + 3) ls (.long r :: rest))) : W p l e R s m args below meth c H locs cells slots Q (F0 m pc ls st0) :=
  va_calll hr hw.2.2.1 (fun q _ h => va_free hw.2.1 hw.2.2.1 hw.2.2.2.2 isC hC q h) (va_free hw.2.1 hw.2.2.1 hw.2.2.2.2 isC hC) (fun r u t H1 locs1 ht _ hp hB _ hk1 hS1 => kk r u H1 locs1 hp (k_ans hw isC isR hC hR hn hdis ht hB hk1 hS1))
theorem k_callf {post : UInt32 → S → Prop} {aa : Array Value} (hr : va_Run p l e R s m args below meth c H locs cells slots mc ms (F0 m pc ls st0) rest (va_Qf post (kB D ty wc H.size w) (va_A wc H.size) aa) (va_A wc H.size)) (hw : kW D ty s A ws H locs) (isC isR : List Nat) (hC : isC.map (fun i => ws[i]?) = wc.map some) (hR : isR.map (fun i => ws[i]?) = wr.map some) (hn : va_nd isR = true) (hdis : ∀ i ∈ isR, i ∉ isC)
    (kk : ∀ (r : UInt32) (u : S) (H1 : Heap) (locs1 : List Loc), post r u → kW D ty s A (wr ++ w u) H1 locs1 → W p l e R s m args below meth c H1 locs1 (cells + mc) (slots + ms) Q (F0 m (pc + 3) ls (.float r :: rest))) : W p l e R s m args below meth c H locs cells slots Q (F0 m pc ls st0) :=
  va_callf hr hw.2.2.1 (fun q _ h => va_free hw.2.1 hw.2.2.1 hw.2.2.2.2 isC hC q h) (va_free hw.2.1 hw.2.2.1 hw.2.2.2.2 isC hC) (fun r u t H1 locs1 ht _ hp hB _ hk1 hS1 => kk r u H1 locs1 hp (k_ans hw isC isR hC hR hn hdis ht hB hk1 hS1))
theorem k_calld {post : UInt64 → S → Prop} {aa : Array Value} (hr : va_Run p l e R s m args below meth c H locs cells slots mc ms (F0 m pc ls st0) rest (va_Qd post (kB D ty wc H.size w) (va_A wc H.size) aa) (va_A wc H.size)) (hw : kW D ty s A ws H locs) (isC isR : List Nat) (hC : isC.map (fun i => ws[i]?) = wc.map some) (hR : isR.map (fun i => ws[i]?) = wr.map some) (hn : va_nd isR = true) (hdis : ∀ i ∈ isR, i ∉ isC)
    (kk : ∀ (r : UInt64) (u : S) (H1 : Heap) (locs1 : List Loc), post r u → kW D ty s A (wr ++ w u) H1 locs1 → W p l e R s m args below meth c H1 locs1 (cells + mc) (slots + ms) Q (F0 m (pc + 3) ls (.double r :: rest))) : W p l e R s m args below meth c H locs cells slots Q (F0 m pc ls st0) :=
  va_calld hr hw.2.2.1 (fun q _ h => va_free hw.2.1 hw.2.2.1 hw.2.2.2.2 isC hC q h) (va_free hw.2.1 hw.2.2.1 hw.2.2.2.2 isC hC) (fun r u t H1 locs1 ht _ hp hB _ hk1 hS1 => kk r u H1 locs1 hp (k_ans hw isC isR hC hR hn hdis ht hB hk1 hS1))
theorem k_callv {post : S → Prop} {aa : Array Value} (hr : va_Run p l e R s m args below meth c H locs cells slots mc ms (F0 m pc ls st0) rest (va_Qv post (kB D ty wc H.size w) (va_A wc H.size) aa) (va_A wc H.size)) (hw : kW D ty s A ws H locs) (isC isR : List Nat) (hC : isC.map (fun i => ws[i]?) = wc.map some) (hR : isR.map (fun i => ws[i]?) = wr.map some) (hn : va_nd isR = true) (hdis : ∀ i ∈ isR, i ∉ isC)
    (kk : ∀ (u : S) (H1 : Heap) (locs1 : List Loc), post u → kW D ty s A (wr ++ w u) H1 locs1 → W p l e R s m args below meth c H1 locs1 (cells + mc) (slots + ms) Q (F0 m (pc + 3) ls rest)) : W p l e R s m args below meth c H locs cells slots Q (F0 m pc ls st0) :=
  va_callv hr hw.2.2.1 (fun q _ h => va_free hw.2.1 hw.2.2.1 hw.2.2.2.2 isC hC q h) (va_free hw.2.1 hw.2.2.1 hw.2.2.2.2 isC hC) (fun u t H1 locs1 ht _ hp hB _ hk1 hS1 => kk u H1 locs1 hp (k_ans hw isC isR hC hR hn hdis ht hB hk1 hS1))
end KC
end KQ
end
section
/-! the best cut of the orders from a on: its sum and its rolls; of several, most rolls of the first order, and so on -/
def ct_D (f : Nat → Nat × (Nat → Nat)) : Nat → Nat × (Nat → Nat)
  | 0 => f 0
  | m + 1 => if (f (m + 1)).1 < (ct_D f m).1 then ct_D f m else f (m + 1)
def ct_B (cap w : Nat → Nat) : Nat → Nat → Nat → Nat → Nat × (Nat → Nat)
  | 0, _, _, _ => (0, fun _ => 0)
  | k + 1, a, left, room => ct_D (fun r => (r * w a + (ct_B cap w k (a + 1) (left - r) (room - r * w a)).1, fun j => if j = a then r else (ct_B cap w k (a + 1) (left - r) (room - r * w a)).2 j)) (min (min (cap a) left) (room / w a))
/-- the choices at a -/
def ct_f (cap w : Nat → Nat) (k a left room : Nat) : Nat → Nat × (Nat → Nat) := fun r => (r * w a + (ct_B cap w k (a + 1) (left - r) (room - r * w a)).1, fun j => if j = a then r else (ct_B cap w k (a + 1) (left - r) (room - r * w a)).2 j)
theorem ct_B_succ (cap w : Nat → Nat) (k a left room : Nat) : ct_B cap w (k + 1) a left room = ct_D (ct_f cap w k a left room) (min (min (cap a) left) (room / w a)) := rfl
theorem ct_D_le (f : Nat → Nat × (Nat → Nat)) : ∀ (m r : Nat), r ≤ m → (f r).1 ≤ (ct_D f m).1
  | 0, r, h => by
    have e : r = 0 := by omega
    subst e
    exact Nat.le_refl _
  | m + 1, r, h => by
    rw [ct_D]
    by_cases c : (f (m + 1)).1 < (ct_D f m).1
    · rw [if_pos c]
      rcases Nat.lt_or_ge m r with q | q
      · have e : r = m + 1 := by omega
        subst e
        omega
      · exact ct_D_le f m r q
    · rw [if_neg c]
      rcases Nat.lt_or_ge m r with q | q
      · have e : r = m + 1 := by omega
        subst e
        exact Nat.le_refl _
      · have := ct_D_le f m r q
        omega
theorem ct_D_ex (f : Nat → Nat × (Nat → Nat)) : ∀ m : Nat, ∃ r, r ≤ m ∧ ct_D f m = f r
  | 0 => ⟨0, Nat.le_refl _, rfl⟩
  | m + 1 => by
    rw [ct_D]
    by_cases c : (f (m + 1)).1 < (ct_D f m).1
    · rw [if_pos c]
      obtain ⟨r, h1, h2⟩ := ct_D_ex f m
      exact ⟨r, by omega, h2⟩
    · rw [if_neg c]
      exact ⟨m + 1, Nat.le_refl _, rfl⟩
theorem ct_mul {r w room : Nat} (h : r ≤ room / w) : r * w ≤ room := Nat.le_trans (Nat.mul_le_mul_right w h) (Nat.div_mul_le_self room w)
theorem ct_B_room (cap w : Nat → Nat) : ∀ (k a left room : Nat), (ct_B cap w k a left room).1 ≤ room
  | 0, _, _, _ => Nat.zero_le _
  | k + 1, a, left, room => by
    rw [ct_B_succ]
    obtain ⟨r, h1, h2⟩ := ct_D_ex (ct_f cap w k a left room) (min (min (cap a) left) (room / w a))
    rw [h2]
    have h3 : r * w a ≤ room := ct_mul (by omega)
    have h4 := ct_B_room cap w k (a + 1) (left - r) (room - r * w a)
    show r * w a + _ ≤ room
    omega
theorem ct_B_left (cap w : Nat → Nat) (M : Nat) : ∀ (k a left room : Nat), (∀ j, a ≤ j → j < a + k → 0 < cap j → w j ≤ M) → (ct_B cap w k a left room).1 ≤ left * M
  | 0, _, _, _, _ => Nat.zero_le _
  | k + 1, a, left, room, h => by
    rw [ct_B_succ]
    obtain ⟨r, h1, h2⟩ := ct_D_ex (ct_f cap w k a left room) (min (min (cap a) left) (room / w a))
    rw [h2]
    have h4 := ct_B_left cap w M k (a + 1) (left - r) (room - r * w a) (fun j q1 q2 => h j (by omega) (by omega))
    show r * w a + _ ≤ left * M
    rcases Nat.eq_zero_or_pos r with q | q
    · subst q
      simp only [Nat.zero_mul, Nat.zero_add, Nat.sub_zero] at h4 ⊢
      exact h4
    · have h5 : w a ≤ M := h a (Nat.le_refl _) (by omega) (by omega)
      have h6 : r * w a ≤ r * M := Nat.mul_le_mul_left r h5
      have h7 : (left - r) * M + r * M = left * M := by rw [← Nat.add_mul]; congr 1; omega
      omega
/-- orders that give nothing behind the last change nothing -/
theorem ct_B_more (cap w : Nat → Nat) (x : Nat) : ∀ (k a left room : Nat), (∀ j, a + k ≤ j → cap j = 0) → (ct_B cap w (k + x) a left room).1 = (ct_B cap w k a left room).1 ∧ ∀ j, (ct_B cap w (k + x) a left room).2 j = (ct_B cap w k a left room).2 j
  | 0, a, left, room, h => by
    induction x generalizing a left room with
    | zero => exact ⟨rfl, fun _ => rfl⟩
    | succ x ih =>
      have hc : cap a = 0 := h a (by omega)
      obtain ⟨h1, h2⟩ := ih (a + 1) left room (fun j q => h j (by omega))
      rw [show 0 + (x + 1) = (0 + x) + 1 from rfl, ct_B_succ, hc]
      simp only [Nat.zero_min, ct_D, ct_f, Nat.zero_mul, Nat.zero_add, Nat.sub_zero] at h1 h2 ⊢
      refine ⟨h1, fun j => ?_⟩
      by_cases e : j = a
      · rw [if_pos e]; rfl
      · rw [if_neg e]; exact h2 j
  | k + 1, a, left, room, h => by
    have hk : ∀ (l r : Nat), (ct_B cap w (k + x) (a + 1) l r).1 = (ct_B cap w k (a + 1) l r).1 ∧ ∀ j, (ct_B cap w (k + x) (a + 1) l r).2 j = (ct_B cap w k (a + 1) l r).2 j := fun l r => ct_B_more cap w x k (a + 1) l r (fun j q => h j (by omega))
    have e : ct_f cap w (k + x) a left room = ct_f cap w k a left room := by
      funext r
      simp only [ct_f]
      rw [(hk _ _).1]
      congr 1
      funext j
      rw [(hk _ _).2]
    rw [show k + 1 + x = (k + x) + 1 by omega, ct_B_succ, ct_B_succ, e]
    exact ⟨rfl, fun _ => rfl⟩
/-- only what the orders give matters, and their widths where they give something -/
theorem ct_B_cong {cap cap2 w w2 : Nat → Nat} : ∀ (k a left room : Nat), (∀ j, a ≤ j → j < a + k → min (cap j) left = min (cap2 j) left ∧ (0 < min (cap j) left → w j = w2 j)) → ct_B cap w k a left room = ct_B cap2 w2 k a left room
  | 0, _, _, _, _ => rfl
  | k + 1, a, left, room, h => by
    obtain ⟨h1, h2⟩ := h a (Nat.le_refl _) (by omega)
    rw [ct_B_succ, ct_B_succ, ← h1]
    rcases Nat.eq_zero_or_pos (min (cap a) left) with q | q
    · rw [q]
      simp only [Nat.zero_min, ct_D, ct_f, Nat.zero_mul, Nat.sub_zero]
      rw [ct_B_cong (cap := cap) (cap2 := cap2) (w := w) (w2 := w2) k (a + 1) left room (fun j q1 q2 => h j (by omega) (by omega))]
    · have ew := h2 q
      have e : ct_f cap w k a left room = ct_f cap2 w2 k a left room := by
        funext r
        simp only [ct_f]
        rw [← ew, ct_B_cong (cap := cap) (cap2 := cap2) (w := w) (w2 := w2) k (a + 1) (left - r) (room - r * w a) (fun j q1 q2 => by
          obtain ⟨g1, g2⟩ := h j (by omega) (by omega)
          exact ⟨by omega, fun g => g2 (by omega)⟩)]
      rw [e, ew]
/-! a search that keeps the best so far -/
def ct_app (st : Int32 × (Nat → Nat)) (x : Nat × (Nat → Nat)) : Int32 × (Nat → Nat) := if st.1 < nI x.1 then (nI x.1, x.2) else st
def ct_L (f : Nat → Nat × (Nat → Nat)) : Nat → Int32 × (Nat → Nat) → Int32 × (Nat → Nat)
  | 0, st => st
  | q + 1, st => ct_L f q (ct_app st (f q))
theorem ct_app2 (st : Int32 × (Nat → Nat)) {x y : Nat × (Nat → Nat)} (hx : x.1 < 2 ^ 31) (hy : y.1 < 2 ^ 31) : ct_app (ct_app st x) y = ct_app st (if x.1 < y.1 then y else x) := by
  have e := nI_ltI hx hy
  by_cases c2 : x.1 < y.1
  · rw [if_pos c2]
    by_cases c1 : st.1 < nI x.1
    · rw [show ct_app st x = (nI x.1, x.2) from if_pos c1, show ct_app (nI x.1, x.2) y = (nI y.1, y.2) from if_pos (e.mpr c2), show ct_app st y = (nI y.1, y.2) from if_pos (Int32.lt_trans c1 (e.mpr c2))]
    · rw [show ct_app st x = st from if_neg c1]
  · rw [if_neg c2]
    by_cases c1 : st.1 < nI x.1
    · rw [show ct_app st x = (nI x.1, x.2) from if_pos c1]
      exact if_neg (fun h => c2 (e.mp h))
    · rw [show ct_app st x = st from if_neg c1]
      exact if_neg (fun h => c1 (Int32.lt_of_lt_of_le h ((nI_leI hy hx).mpr (by omega))))
theorem ct_L_D (f : Nat → Nat × (Nat → Nat)) (hf : ∀ r, (f r).1 < 2 ^ 31) : ∀ (m : Nat) (st : Int32 × (Nat → Nat)), ct_L f (m + 1) st = ct_app st (ct_D f m)
  | 0, st => rfl
  | m + 1, st => by
    rw [ct_L, ct_L_D f hf m, ct_app2 st (hf _) (by obtain ⟨r, -, h⟩ := ct_D_ex f m; rw [h]; exact hf r), ct_D]
/-- the same with a sum before it and a beginning -/
def ct_mix (a : Nat) (tv v : Nat → Nat) : Nat → Nat := fun j => if j < a then tv j else v j
theorem ct_D_map (f : Nat → Nat × (Nat → Nat)) (n : Nat) (g : (Nat → Nat) → Nat → Nat) : ∀ m : Nat, ct_D (fun r => (n + (f r).1, g (f r).2)) m = (n + (ct_D f m).1, g (ct_D f m).2)
  | 0 => rfl
  | m + 1 => by
    simp only [ct_D]
    rw [ct_D_map f n g m]
    by_cases c : (f (m + 1)).1 < (ct_D f m).1
    · rw [if_pos c, if_pos (by simp only; omega)]
    · rw [if_neg c, if_neg (by simp only; omega)]
theorem ct_mix_succ {a r : Nat} {tv tv2 v : Nat → Nat} (h1 : ∀ j, j < a → tv2 j = tv j) (h2 : tv2 a = r) : ct_mix (a + 1) tv2 v = ct_mix a tv (fun j => if j = a then r else v j) := by
  funext j
  simp only [ct_mix]
  rcases Nat.lt_trichotomy j a with q | q | q
  · rw [if_pos (by omega), if_pos q, h1 j q]
  · subst q
    rw [if_pos (by omega), if_neg (by omega), if_pos rfl, h2]
  · rw [if_neg (by omega), if_neg (by omega), if_neg (by omega)]
/-- the candidates at a node of the search, with the sum so far and the rolls chosen so far -/
def ct_g (cap w : Nat → Nat) (k a left room sum : Nat) (tv : Nat → Nat) : Nat → Nat × (Nat → Nat) := fun r => (sum + (ct_f cap w k a left room r).1, ct_mix a tv (ct_f cap w k a left room r).2)
theorem ct_g_node (cap w : Nat → Nat) (k a left room sum : Nat) (tv : Nat → Nat) (hs : sum + room < 2 ^ 31) (st : Int32 × (Nat → Nat)) (m : Nat) (hm : m = min (min (cap a) left) (room / w a)) :
    ct_L (ct_g cap w k a left room sum tv) (m + 1) st = ct_app st (sum + (ct_B cap w (k + 1) a left room).1, ct_mix a tv (ct_B cap w (k + 1) a left room).2) := by
  -- beyond m the sums may be greater than the room: cut them off
  have key : ∀ (q : Nat) (st : Int32 × (Nat → Nat)), q ≤ m → ct_L (ct_g cap w k a left room sum tv) (q + 1) st = ct_app st (ct_D (ct_g cap w k a left room sum tv) q) := by
    intro q
    have hb : ∀ r, r ≤ m → (ct_g cap w k a left room sum tv r).1 < 2 ^ 31 := by
      intro r hr
      have h3 : r * w a ≤ room := ct_mul (by omega)
      have h4 := ct_B_room cap w k (a + 1) (left - r) (room - r * w a)
      show sum + (r * w a + _) < 2 ^ 31
      omega
    induction q with
    | zero => intro st _; rfl
    | succ q ih =>
      intro st hq
      rw [ct_L, ih _ (by omega), ct_app2 st (hb _ hq) (by obtain ⟨r, h0, h⟩ := ct_D_ex (ct_g cap w k a left room sum tv) q; rw [h]; exact hb r (by omega)), ct_D]
  rw [key m st (Nat.le_refl _), ct_B_succ, ← hm]
  congr 1
  exact ct_D_map (ct_f cap w k a left room) sum (ct_mix a tv) m
/-! what can be cut at all: the greatest sum is that of B -/
def ct_ok (cap : Nat → Nat) (r : Nat → Nat) : Prop := ∀ j, r j ≤ cap j
theorem ct_sm_shift (f : Nat → Nat) : ∀ n, fb_sm f (n + 1) = f 0 + fb_sm (fun j => f (j + 1)) n
  | 0 => by simp [fb_sm]
  | n + 1 => by rw [fb_sm_succ, ct_sm_shift f n, fb_sm_succ]; omega
theorem ct_B_is (cap w : Nat → Nat) : ∀ (k a left room : Nat), ∃ r : Nat → Nat, (∀ j, j < k → r j ≤ cap (a + j)) ∧ fb_sm r k ≤ left ∧ fb_sm (fun j => r j * w (a + j)) k = (ct_B cap w k a left room).1
  | 0, a, left, room => ⟨fun _ => 0, fun _ h => absurd h (Nat.not_lt_zero _), Nat.zero_le _, rfl⟩
  | k + 1, a, left, room => by
    obtain ⟨r0, h1, h2⟩ := ct_D_ex (ct_f cap w k a left room) (min (min (cap a) left) (room / w a))
    obtain ⟨r, g1, g2, g3⟩ := ct_B_is cap w k (a + 1) (left - r0) (room - r0 * w a)
    refine ⟨fun j => match j with | 0 => r0 | j + 1 => r j, fun j hj => ?_, ?_, ?_⟩
    · cases j with
      | zero => show r0 ≤ cap (a + 0); rw [Nat.add_zero]; omega
      | succ j => show r j ≤ cap (a + (j + 1)); rw [show a + (j + 1) = a + 1 + j by omega]; exact g1 j (by omega)
    · rw [ct_sm_shift]
      show r0 + fb_sm r k ≤ left
      omega
    · rw [ct_sm_shift, ct_B_succ, h2]
      show r0 * w (a + 0) + fb_sm (fun j => r j * w (a + (j + 1))) k = r0 * w a + _
      rw [← g3, Nat.add_zero]
      congr 1
      exact fb_sm_cong (fun j _ => by rw [show a + (j + 1) = a + 1 + j by omega])
theorem ct_B_max (cap w : Nat → Nat) : ∀ (k a left room : Nat) (r : Nat → Nat), (∀ j, j < k → r j ≤ cap (a + j)) → (∀ j, j < k → 0 < r j → 0 < w (a + j)) → fb_sm r k ≤ left → fb_sm (fun j => r j * w (a + j)) k ≤ room → fb_sm (fun j => r j * w (a + j)) k ≤ (ct_B cap w k a left room).1
  | 0, _, _, _, _, _, _, _, _ => Nat.zero_le _
  | k + 1, a, left, room, r, h1, hw, h2, h3 => by
    rw [ct_sm_shift] at h2 h3 ⊢
    simp only [Nat.add_zero] at h3 ⊢
    have e : fb_sm (fun j => r (j + 1) * w (a + (j + 1))) k = fb_sm (fun j => r (j + 1) * w (a + 1 + j)) k := fb_sm_cong (fun j _ => by rw [show a + (j + 1) = a + 1 + j by omega])
    rw [e] at h3 ⊢
    have ih := ct_B_max cap w k (a + 1) (left - r 0) (room - r 0 * w a) (fun j => r (j + 1)) (fun j hj => by rw [show a + 1 + j = a + (j + 1) by omega]; exact h1 (j + 1) (by omega)) (fun j hj h => by rw [show a + 1 + j = a + (j + 1) by omega]; exact hw (j + 1) (by omega) h) (by omega) (by omega)
    have hm : r 0 ≤ min (min (cap a) left) (room / w a) := by
      have q1 := h1 0 (by omega)
      rw [Nat.add_zero] at q1
      rcases Nat.eq_zero_or_pos (r 0) with q | q
      · rw [q]; exact Nat.zero_le _
      · have q2 := hw 0 (by omega) q
        rw [Nat.add_zero] at q2
        have q3 : r 0 ≤ room / w a := (Nat.le_div_iff_mul_le q2).mpr (by omega)
        omega
    have h9 := ct_D_le (ct_f cap w k a left room) _ _ hm
    rw [ct_B_succ]
    refine Nat.le_trans ?_ h9
    show _ ≤ r 0 * w a + _
    omega
end
section
/-! the table of fewest rolls for each sum -/
def tb_cap (cap : Nat → Nat) (i q : Nat) : Nat → Nat := fun j => if j < i then cap j else if j = i then q else 0
theorem tb_cap_i (cap : Nat → Nat) (i q : Nat) : tb_cap cap i q i = q := by
  simp only [tb_cap]
  rw [if_neg (Nat.lt_irrefl i), if_pos trivial]
theorem tb_cap_ne (cap : Nat → Nat) {i j : Nat} (q q2 : Nat) (h : ¬ j = i) : tb_cap cap i q j = tb_cap cap i q2 j := by
  simp only [tb_cap]
  rw [if_neg h, if_neg h]
def tb_R (cap w : Nat → Nat) (i q c s : Nat) : Prop := ∃ r : Nat → Nat, (∀ j, j < 10 → r j ≤ tb_cap cap i q j) ∧ fb_sm r 10 = c ∧ fb_sm (fun j => r j * w j) 10 = s
def tb_I (cap w : Nat → Nat) (room i q : Nat) (f : Nat → Nat) : Prop := (∀ s, s ≤ room → f s ≤ 6 → tb_R cap w i q (f s) s) ∧ ∀ c s, c ≤ 6 → s ≤ room → tb_R cap w i q c s → f s ≤ c
def tb_add (w room : Nat) (f : Nat → Nat) : Nat → Nat := fun s => if w ≤ s ∧ s ≤ room then min (f s) (f (s - w) + 1) else f s
theorem tb_0 (cap w : Nat → Nat) (room : Nat) (f : Nat → Nat) (h0 : f 0 = 0) (h : ∀ s, 0 < s → s ≤ room → f s = 7) : tb_I cap w room 0 0 f := by
  refine ⟨fun s hs h6 => ?_, fun c s hc hs hr => ?_⟩
  · rcases Nat.eq_zero_or_pos s with q | q
    · subst q
      refine ⟨fun _ => 0, fun _ _ => Nat.zero_le _, ?_, ?_⟩
      · rw [h0]; exact (fb_sm_const 0 10)
      · simp only [Nat.zero_mul]; exact (fb_sm_const 0 10)
    · have := h s q hs
      omega
  · obtain ⟨r, h1, h2, h3⟩ := hr
    have hz : ∀ j, j < 10 → r j = 0 := fun j hj => by
      have := h1 j hj
      simp only [tb_cap] at this
      rw [if_neg (by omega)] at this
      split at this <;> omega
    have e : s = 0 := by
      rw [← h3, fb_sm_cong (g := fun _ => 0) (fun j hj => by rw [hz j hj, Nat.zero_mul])]
      exact fb_sm_const 0 10
    subst e
    rw [h0]
    exact Nat.zero_le _
theorem tb_next {cap w : Nat → Nat} {room i : Nat} {f : Nat → Nat} (h : tb_I cap w room i (cap i) f) : tb_I cap w room (i + 1) 0 f := by
  have e : ∀ j, tb_cap cap i (cap i) j = tb_cap cap (i + 1) 0 j := fun j => by
    simp only [tb_cap]
    rcases Nat.lt_trichotomy j i with q | q | q
    · rw [if_pos q, if_pos (by omega)]
    · subst q
      rw [if_neg (by omega), if_pos rfl, if_pos (by omega)]
    · rw [if_neg (by omega), if_neg (by omega), if_neg (by omega)]
      by_cases q2 : j = i + 1
      · rw [if_pos q2]
      · rw [if_neg q2]
  have e2 : ∀ c s, tb_R cap w i (cap i) c s ↔ tb_R cap w (i + 1) 0 c s := fun c s => by
    simp only [tb_R, e]
  exact ⟨fun s hs h6 => (e2 _ _).mp (h.1 s hs h6), fun c s hc hs hr => h.2 c s hc hs ((e2 _ _).mpr hr)⟩
theorem tb_step {cap w : Nat → Nat} {room i q : Nat} {f : Nat → Nat} (hi : i < 10) (hw : 0 < w i) (h : tb_I cap w room i q f) : tb_I cap w room i (q + 1) (tb_add (w i) room f) := by
  have mono : ∀ c s, tb_R cap w i q c s → tb_R cap w i (q + 1) c s := fun c s hr => by
    obtain ⟨r, h1, h2, h3⟩ := hr
    refine ⟨r, fun j hj => Nat.le_trans (h1 j hj) ?_, h2, h3⟩
    simp only [tb_cap]
    split
    · exact Nat.le_refl _
    · split <;> omega
  refine ⟨fun s hs h6 => ?_, fun c s hc hs hr => ?_⟩
  · simp only [tb_add] at h6 ⊢
    by_cases c1 : w i ≤ s ∧ s ≤ room
    · rw [if_pos c1] at h6 ⊢
      rcases Nat.lt_or_ge (f (s - w i) + 1) (f s) with g | g
      · rw [Nat.min_eq_right (by omega)] at h6 ⊢
        obtain ⟨r, h1, h2, h3⟩ := h.1 (s - w i) (by omega) (by omega)
        have u1 := fb_sm_upd r (r i + 1) hi
        have u2 := fb_sm_upd (fun j => r j * w j) ((r i + 1) * w i) hi
        refine ⟨fun k => if k = i then r i + 1 else r k, fun j hj => ?_, by omega, ?_⟩
        · have := h1 j hj
          by_cases e : j = i
          · subst e
            rw [tb_cap_i] at this ⊢
            dsimp only
            rw [if_pos rfl]
            omega
          · rw [tb_cap_ne cap q (q + 1) e] at this
            dsimp only
            rw [if_neg e]
            exact this
        · have e : fb_sm (fun j => (if j = i then r i + 1 else r j) * w j) 10 = fb_sm (fun k => if k = i then (r i + 1) * w i else r k * w k) 10 := fb_sm_cong (fun j _ => by
            by_cases e : j = i
            · subst e; rw [if_pos rfl, if_pos rfl]
            · rw [if_neg e, if_neg e])
          rw [e]
          have e3 : (r i + 1) * w i = r i * w i + w i := Nat.succ_mul _ _
          omega
      · rw [Nat.min_eq_left (by omega)] at h6 ⊢
        exact mono _ _ (h.1 s hs h6)
    · rw [if_neg c1] at h6 ⊢
      exact mono _ _ (h.1 s hs h6)
  · obtain ⟨r, h1, h2, h3⟩ := hr
    have hri := h1 i hi
    rw [tb_cap_i] at hri
    rcases Nat.lt_or_ge q (r i) with g | g
    · have hri2 : r i = q + 1 := by omega
      have u1 := fb_sm_upd r q hi
      have u2 := fb_sm_upd (fun j => r j * w j) (q * w i) hi
      have e3 : r i * w i = q * w i + w i := by rw [hri2]; exact Nat.succ_mul _ _
      have e : fb_sm (fun j => (if j = i then q else r j) * w j) 10 = fb_sm (fun k => if k = i then q * w i else r k * w k) 10 := fb_sm_cong (fun j _ => by
        by_cases e : j = i
        · subst e; rw [if_pos rfl, if_pos rfl]
        · rw [if_neg e, if_neg e])
      have hle := h.2 (c - 1) (s - w i) (by omega) (by omega) ⟨fun k => if k = i then q else r k, fun j hj => by
        have := h1 j hj
        by_cases e : j = i
        · subst e
          dsimp only
          rw [if_pos rfl, tb_cap_i]
          exact Nat.le_refl _
        · rw [tb_cap_ne cap (q + 1) q e] at this
          dsimp only
          rw [if_neg e]
          exact this, by omega, by rw [e]; omega⟩
      simp only [tb_add]
      rw [if_pos (by omega)]
      omega
    · have hle := h.2 c s hc hs ⟨r, fun j hj => by
        have := h1 j hj
        by_cases e : j = i
        · subst e
          rw [tb_cap_i]
          exact g
        · rw [tb_cap_ne cap (q + 1) q e] at this
          exact this, h2, h3⟩
      simp only [tb_add]
      split
      · omega
      · exact hle
theorem tb_end {cap w : Nat → Nat} {room R : Nat} {f : Nat → Nat} (hw : ∀ j, j < 10 → 0 < cap j → 0 < w j) (h : tb_I cap w room 10 0 f) (h1 : R ≤ room) (h2 : 0 < R → f R ≤ 6) (h3 : ∀ s, R < s → s ≤ room → ¬ f s ≤ 6) : R = (ct_B cap w 10 0 6 room).1 := by
  have cap10 : ∀ j, j < 10 → tb_cap cap 10 0 j = cap j := fun j hj => by simp only [tb_cap]; rw [if_pos hj]
  apply Nat.le_antisymm
  · rcases Nat.eq_zero_or_pos R with q | q
    · rw [q]; exact Nat.zero_le _
    · obtain ⟨r, g1, g2, g3⟩ := h.1 R h1 (h2 q)
      have := ct_B_max cap w 10 0 6 room r (fun j hj => by rw [Nat.zero_add, ← cap10 j hj]; exact g1 j hj) (fun j hj hr => by rw [Nat.zero_add]; exact hw j hj (by have := g1 j hj; rw [cap10 j hj] at this; omega)) (by rw [g2]; exact h2 q) (by simp only [Nat.zero_add]; rw [g3]; exact h1)
      simp only [Nat.zero_add] at this
      rw [g3] at this
      exact this
  · obtain ⟨r, g1, g2, g3⟩ := ct_B_is cap w 10 0 6 room
    have hr := ct_B_room cap w 10 0 6 room
    rcases Nat.lt_or_ge R (ct_B cap w 10 0 6 room).1 with q | q
    · have := h.2 (fb_sm r 10) (ct_B cap w 10 0 6 room).1 g2 hr ⟨r, fun j hj => by rw [cap10 j hj]; have := g1 j hj; rw [Nat.zero_add] at this; exact this, rfl, by simp only [Nat.zero_add] at g3; exact g3⟩
      exact absurd (Nat.le_trans this g2) (h3 _ q hr)
    · exact q
end
section
/-! what small methods answer, as functions of rows -/
def f_wo (ol ow : Nat → Int32) : Nat → Int32
  | 0 => 0
  | i + 1 => if 0 < ol i then (if f_wo ol ow i < ow i then ow i else f_wo ol ow i) else f_wo ol ow i
def f_rl (og ol : Nat → Int32) (g : Int32) : Nat → Int32
  | 0 => 0
  | i + 1 => if og i = g then f_rl og ol g i + ol i else f_rl og ol g i
def f_wl (og ol ow : Nat → Int32) (g : Int32) : Nat → Int32
  | 0 => 0
  | i + 1 => if og i = g then f_wl og ol ow g i + ol i * ow i else f_wl og ol ow g i
def f_sum (f : Nat → Int32) : Nat → Int32
  | 0 => 0
  | i + 1 => f_sum f i + f i
def f_addN (f g : Nat → Int32) (i : Nat) : Nat → Int32 := fun j => if j < i then f j + g j else f j
def f_subN (f g : Nat → Int32) (i : Nat) : Nat → Int32 := fun j => if j < i then f j - g j else f j
theorem f_addN_0 (f g : Nat → Int32) : f_addN f g 0 = f := by funext j; simp [f_addN]
theorem f_subN_0 (f g : Nat → Int32) : f_subN f g 0 = f := by funext j; simp [f_subN]
theorem f_addN_i (f g : Nat → Int32) (i : Nat) : f_addN f g i i = f i := by simp [f_addN]
theorem f_subN_i (f g : Nat → Int32) (i : Nat) : f_subN f g i i = f i := by simp [f_subN]
theorem f_addN_s (f g : Nat → Int32) (i : Nat) : upd (f_addN f g i) i (f i + g i) = f_addN f g (i + 1) := by
  funext j
  simp only [upd, f_addN]
  by_cases h : j = i
  · subst h; simp
  · rw [if_neg h]
    by_cases h2 : j < i
    · rw [if_pos h2, if_pos (by omega)]
    · rw [if_neg h2, if_neg (by omega)]
theorem f_subN_s (f g : Nat → Int32) (i : Nat) : upd (f_subN f g i) i (f i - g i) = f_subN f g (i + 1) := by
  funext j
  simp only [upd, f_subN]
  by_cases h : j = i
  · subst h; simp
  · rw [if_neg h]
    by_cases h2 : j < i
    · rw [if_pos h2, if_pos (by omega)]
    · rw [if_neg h2, if_neg (by omega)]
def f_cost (li fp sp x : Int32) : Int64 := Int32.toInt64 (if li < x then li else x) * Int32.toInt64 fp + Int32.toInt64 (x - (if li < x then li else x)) * Int32.toInt64 sp
def f_fs (fi po lo : Nat → Int32) : Nat → Int32
  | 0 => 0
  | i + 1 => f_fs fi po lo i + (fi i - po i - lo i)
def f_tk (we : Nat → Int32) (w : Int32) : Nat → Bool
  | 0 => false
  | i + 1 => f_tk we w i || we i == w
theorem f_tk_mono {we : Nat → Int32} {w : Int32} {i : Nat} (h : f_tk we w (i + 1) = true) : ∀ k, i < k → f_tk we w k = true
  | 0, hk => absurd hk (Nat.not_lt_zero _)
  | k + 1, hk => by
    rcases Nat.lt_or_ge i k with q | q
    · rw [f_tk, f_tk_mono h k q]; rfl
    · have e : i = k := by omega
      subst e
      exact h
def f_dist (we : Nat → Int32) (w a : Int32) (i : Nat) : Int32 := if a = 0 then w - we i else we i - w
def f_near (we : Nat → Int32) (op : Nat → Bool) (w a : Int32) : Nat → Int32
  | 0 => -1
  | i + 1 => if (0 < f_dist we w a i ∧ (f_near we op w a i = -1 ∨ f_dist we w a i < f_dist we w a (f_near we op w a i).toNatClampNeg)) ∧ op i = true then nI i else f_near we op w a i
end
section
/-! facts for the cutter's rows -/
def f_fill (v : Int32) (n : Nat) (f : Nat → Int32) : Nat → Int32 := fun j => if j < n then v else f j
theorem f_fill_0 (v : Int32) (f : Nat → Int32) : f_fill v 0 f = f := by funext j; simp [f_fill]
theorem f_fill_s (v : Int32) (i : Nat) (f : Nat → Int32) : upd (f_fill v i f) i v = f_fill v (i + 1) f := by
  funext j
  simp only [upd, f_fill]
  by_cases h : j = i
  · subst h; simp
  · rw [if_neg h]
    by_cases h2 : j < i
    · rw [if_pos h2, if_pos (by omega)]
    · rw [if_neg h2, if_neg (by omega)]
theorem i_min {a b : Nat} (ha : a < 2 ^ 31) (hb : b < 2 ^ 31) : (if nI a < nI b then nI a else nI b) = nI (min b a) := by
  by_cases h : a < b
  · rw [if_pos ((nI_ltI ha hb).mpr h), Nat.min_eq_right (by omega)]
  · rw [if_neg (fun q => h ((nI_ltI ha hb).mp q)), Nat.min_eq_left (by omega)]
theorem i_max {a b : Nat} (ha : a < 2 ^ 31) (hb : b < 2 ^ 31) : (if nI a < nI b then nI b else nI a) = nI (max a b) := by
  by_cases h : a < b
  · rw [if_pos ((nI_ltI ha hb).mpr h), Nat.max_eq_right (by omega)]
  · rw [if_neg (fun q => h ((nI_ltI ha hb).mp q)), Nat.max_eq_left (by omega)]
theorem i_m1 (t : Nat) : nI t + (-1) = nI t - 1 := (Int32.sub_eq_add_neg (nI t) 1).symm
/-- one step of the table, in the row -/
theorem tb_row {g : Nat → Int32} {f : Nat → Nat} {rm wd x : Nat} (hf : ∀ s, s ≤ 800 → f s ≤ 7) (hrm : rm ≤ 800) (hw : 0 < wd) (h1 : x ≤ rm) (h2 : ∀ s, s ≤ 800 → g s = nI (if x < s then tb_add wd rm f s else f s)) (hx : wd ≤ x) :
    ∀ s, s ≤ 800 → upd g x (if g (x - wd) + 1 < g x then g (x - wd) + 1 else g x) s = nI (if x - 1 < s then tb_add wd rm f s else f s) := by
  intro s hs
  have e1 : g x = nI (f x) := by rw [h2 x (by omega), if_neg (by omega)]
  have e2 : g (x - wd) = nI (f (x - wd)) := by rw [h2 (x - wd) (by omega), if_neg (by omega)]
  have b1 := hf x (by omega)
  have b2 := hf (x - wd) (by omega)
  by_cases e : s = x
  · subst e
    rw [pk_us, e1, e2, nI_1, i_min (by omega) (by omega), if_pos (by omega)]
    simp only [tb_add]
    rw [if_pos ⟨hx, h1⟩]
  · rw [pk_un e, h2 s hs]
    by_cases q : x < s
    · rw [if_pos q, if_pos (by omega)]
    · rw [if_neg q, if_neg (by omega)]
/-- what the orders of one grade give to a cut -/
def f_cap (og : Nat → Int32) (lk : Nat → Nat) (k : Nat) (g : Int32) : Nat → Nat := fun j => if j < k ∧ og j = g then min (lk j) 6 else 0
def f_wf (cp w : Nat → Nat) : Nat → Nat
  | 0 => 0
  | q + 1 => if 0 < cp (9 - q) then max (f_wf cp w q) (w (9 - q)) else f_wf cp w q
theorem f_wf_le (cp w : Nat → Nat) (hw : ∀ j, j < 10 → w j ≤ 400) : ∀ q, f_wf cp w q ≤ 400
  | 0 => Nat.zero_le _
  | q + 1 => by
    rw [f_wf]
    have h1 := f_wf_le cp w hw q
    have h2 := hw (9 - q) (by omega)
    split <;> omega
theorem f_wf_ge (cp w : Nat → Nat) : ∀ (q j : Nat), 10 - q ≤ j → j < 10 → 0 < cp j → w j ≤ f_wf cp w q
  | 0, j, h1, h2, _ => absurd h2 (by omega)
  | q + 1, j, h1, h2, h3 => by
    rw [f_wf]
    rcases Nat.lt_or_ge j (10 - q) with g | g
    · rcases Nat.lt_or_ge 9 q with q9 | q9
      · have := f_wf_ge cp w q j (by omega) h2 h3
        split <;> omega
      · have e : 9 - q = j := by omega
        rw [e, if_pos h3]
        omega
    · have := f_wf_ge cp w q j g h2 h3
      split <;> omega
theorem f_wf_s (cp w : Nat → Nat) {t : Nat} (ht : t < 10) : f_wf cp w (10 - t) = if 0 < cp t then max (f_wf cp w (10 - (t + 1))) (w t) else f_wf cp w (10 - (t + 1)) := by
  rw [show 10 - t = (10 - (t + 1)) + 1 by omega, f_wf, show 9 - (10 - (t + 1)) = t by omega]
theorem ld_row {f : Nat → Int32} (F : Nat → Nat) {v : Int32} {t : Nat} (h : ∀ j, t + 1 ≤ j → j < 10 → f j = nI (F j)) (hv : v = nI (F t)) : ∀ j, t ≤ j → j < 10 → upd f t v j = nI (F j) := by
  intro j h1 h2
  by_cases e : j = t
  · subst e; rw [pk_us]; exact hv
  · rw [pk_un e]; exact h j (by omega) h2
theorem ld_room {rm : Nat} (h : rm ≤ 800) : (if (0 : Int32) < (if (800 : Int32) < nI rm then 800 else nI rm) then (if (800 : Int32) < nI rm then 800 else nI rm) else 0) = nI rm := by
  have h1 : ¬ (800 : Int32) < nI rm := fun q => absurd ((nI_ltI (a := 800) (by omega) (by omega)).mp q) (by omega)
  rw [if_neg h1]
  rcases Nat.eq_zero_or_pos rm with q | q
  · subst q; rfl
  · exact if_pos ((nI_ltI (a := 0) (by omega) (by omega)).mpr q)
theorem ld_cap {og : Nat → Int32} {lk : Nat → Nat} {k t : Nat} {g : Int32} {ol : Nat → Int32} (h : t < k ∧ og t = g) (hl : ol t = nI (lk t)) (hb : lk t ≤ 1000) : (if (6 : Int32) < ol t then 6 else ol t) = nI (f_cap og lk k g t) := by
  simp only [f_cap]
  rw [if_pos h, hl]
  exact i_min (a := 6) (by omega) (by omega)
theorem ld_cap0 {og : Nat → Int32} {lk : Nat → Nat} {k t : Nat} {g : Int32} (h : ¬ (t < k ∧ og t = g)) : (0 : Int32) = nI (f_cap og lk k g t) := by
  simp only [f_cap]
  rw [if_neg h]; rfl
theorem f_cap_le (og : Nat → Int32) (lk : Nat → Nat) (k : Nat) (g : Int32) (t : Nat) : f_cap og lk k g t ≤ 6 := by
  simp only [f_cap]
  split <;> omega
theorem ld_w1 {cp w : Nat → Nat} {fm fw : Nat → Int32} {v wi wv : Int32} {t : Nat} (ht : t < 10) (hb : cp t ≤ 6) (hw : ∀ j, j < 10 → w j ≤ 400) (hv : v = nI (cp t)) (c : ¬ upd fm t v t ≤ 0) (hwi : wi = nI (f_wf cp w (10 - (t + 1)))) (hwv : wv = nI (w t)) : (if wi < upd fw t wv t then upd fw t wv t else wi) = nI (f_wf cp w (10 - t)) := by
  rw [pk_us, hv] at c
  have h0 : 0 < cp t := by
    rcases Nat.eq_zero_or_pos (cp t) with q | q
    · rw [q] at c; exact absurd (by decide) c
    · exact q
  have b1 := f_wf_le cp w hw (10 - (t + 1))
  have b2 := hw t ht
  rw [pk_us, hwi, hwv, i_max (by omega) (by omega), f_wf_s cp w ht, if_pos h0]
theorem ld_w0 {cp w : Nat → Nat} {fm : Nat → Int32} {v wi : Int32} {t : Nat} (ht : t < 10) (hb : cp t ≤ 6) (hv : v = nI (cp t)) (c : upd fm t v t ≤ 0) (hwi : wi = nI (f_wf cp w (10 - (t + 1)))) : wi = nI (f_wf cp w (10 - t)) := by
  rw [pk_us, hv] at c
  have h0 : ¬ 0 < cp t := fun q => absurd ((nI_leI (b := 0) (by omega) (by omega)).mp c) (by omega)
  rw [hwi, f_wf_s cp w ht, if_neg h0]
end
section
/-! the class's search: what is too wide is passed over, what cannot be greater is left out -/
def ct_Ls (f : Nat → Nat × (Nat → Nat)) (w room : Nat) : Nat → Int32 × (Nat → Nat) → Int32 × (Nat → Nat)
  | 0, st => st
  | q + 1, st => ct_Ls f w room q (if q * w ≤ room then ct_app st (f q) else st)
theorem ct_Ls_L (f : Nat → Nat × (Nat → Nat)) (w room : Nat) : ∀ (q : Nat) (st : Int32 × (Nat → Nat)), (∀ r, r < q → r * w ≤ room) → ct_Ls f w room q st = ct_L f q st
  | 0, _, _ => rfl
  | q + 1, st, h => by
    rw [ct_Ls, ct_L, if_pos (h q (by omega))]
    exact ct_Ls_L f w room q _ (fun r hr => h r (by omega))
theorem ct_Ls_skip (f : Nat → Nat × (Nat → Nat)) (w room : Nat) : ∀ (x q : Nat) (st : Int32 × (Nat → Nat)), (∀ r, q ≤ r → ¬ r * w ≤ room) → ct_Ls f w room (q + x) st = ct_Ls f w room q st
  | 0, _, _, _ => rfl
  | x + 1, q, st, h => by
    rw [show q + (x + 1) = (q + x) + 1 from rfl, ct_Ls, if_neg (h _ (by omega))]
    exact ct_Ls_skip f w room x q st h
theorem ct_Ls_node (cap w : Nat → Nat) (k a left room sum : Nat) (tv : Nat → Nat) (hs : sum + room < 2 ^ 31) (st : Int32 × (Nat → Nat)) (hpos : 0 < cap a → 0 < w a) :
    ct_Ls (ct_g cap w k a left room sum tv) (w a) room (min (cap a) left + 1) st = ct_app st (sum + (ct_B cap w (k + 1) a left room).1, ct_mix a tv (ct_B cap w (k + 1) a left room).2) := by
  rw [← ct_g_node cap w k a left room sum tv hs st _ rfl]
  rcases Nat.eq_zero_or_pos (w a) with q | q
  · have e : cap a = 0 := by
      rcases Nat.eq_zero_or_pos (cap a) with z | z
      · exact z
      · exact absurd (hpos z) (by omega)
    rw [e, Nat.zero_min, Nat.zero_min]
    exact ct_Ls_L _ _ _ 1 st (fun r hr => by rw [show r = 0 by omega, Nat.zero_mul]; exact Nat.zero_le _)
  · obtain ⟨x, hx⟩ : ∃ x, min (cap a) left + 1 = (min (min (cap a) left) (room / w a) + 1) + x := ⟨min (cap a) left - min (min (cap a) left) (room / w a), by omega⟩
    rcases Nat.lt_or_ge (room / w a) (min (cap a) left) with g | g
    · rw [hx, ct_Ls_skip]
      · exact ct_Ls_L _ _ _ _ st (fun r hr => ct_mul (by omega))
      · intro r hr h
        have := (Nat.le_div_iff_mul_le q).mpr h
        omega
    · rw [show min (min (cap a) left) (room / w a) = min (cap a) left by omega]
      exact ct_Ls_L _ _ _ _ st (fun r hr => ct_mul (by omega))
theorem sr_app_le {st : Int32 × (Nat → Nat)} {x : Nat × (Nat → Nat)} {n : Nat} (h : ¬ st.1 < nI n) (hx : x.1 ≤ n) (hn : n < 2 ^ 31) : ct_app st x = st :=
  if_neg (fun q => h (Int32.lt_of_lt_of_le q ((nI_leI (by omega) hn).mpr hx)))
/-- the state of a search: the greatest sum and its cut -/
def sr_ok (bs : Int32) (fb : Nat → Int32) (st : Int32 × (Nat → Nat)) : Prop := bs = st.1 ∧ ∀ j, j < 10 → fb j = nI (st.2 j)
theorem sr_base {cp w : Nat → Nat} {bs bs2 : Int32} {fb fb2 ft : Nat → Int32} {bv tv : Nat → Nat} {sm rm lf : Nat} (h1 : bs2 = (if bs < nI sm then nI sm else bs)) (h2 : ∀ j, j < 10 → fb2 j = if bs < nI sm then ft j else fb j) (hfb : ∀ j, j < 10 → fb j = nI (bv j)) (hft : ∀ j, j < 10 → ft j = nI (tv j)) :
    sr_ok bs2 fb2 (ct_app (bs, bv) (sm + (ct_B cp w 0 10 lf (rm - sm)).1, ct_mix 10 tv (ct_B cp w 0 10 lf (rm - sm)).2)) := by
  simp only [ct_B, Nat.add_zero]
  by_cases c : bs < nI sm
  · rw [show ct_app (bs, bv) (sm, ct_mix 10 tv fun _ => 0) = (nI sm, ct_mix 10 tv fun _ => 0) from if_pos c]
    refine ⟨by rw [h1, if_pos c], fun j hj => ?_⟩
    rw [h2 j hj, if_pos c, hft j hj]
    simp only [ct_mix]
    rw [if_pos hj]
  · rw [show ct_app (bs, bv) (sm, ct_mix 10 tv fun _ => 0) = (bs, bv) from if_neg c]
    refine ⟨by rw [h1, if_neg c], fun j hj => ?_⟩
    rw [h2 j hj, if_neg c, hfb j hj]
theorem sr_prune {cp w wf : Nat → Nat} {bs : Int32} {bv tv : Nat → Nat} {k a lf sm rm : Nat} (ha : a + (k + 1) = 10) (hrm : rm ≤ 800) (hsm : sm ≤ rm) (hbd : ∀ i j, i ≤ j → j < 10 → 0 < cp j → w j ≤ wf i) (hlw : lf * wf a ≤ 2400) (c : ¬ bs < nI (sm + min (lf * wf a) (rm - sm))) :
    ct_app (bs, bv) (sm + (ct_B cp w (k + 1) a lf (rm - sm)).1, ct_mix a tv (ct_B cp w (k + 1) a lf (rm - sm)).2) = (bs, bv) := by
  have h1 := ct_B_room cp w (k + 1) a lf (rm - sm)
  have h2 := ct_B_left cp w (wf a) (k + 1) a lf (rm - sm) (fun j q1 q2 q3 => hbd a j q1 (by omega) q3)
  exact sr_app_le c (by dsimp only; omega) (by omega)
/-- one choice tried -/
theorem sr_try {cp w : Nat → Nat} {k a lf sm rm t : Nat} {tv : Nat → Nat} {st : Int32 × (Nat → Nat)} (h : t * w a ≤ rm - sm) :
    ct_app st (sm + t * w a + (ct_B cp w k (a + 1) (lf - t) (rm - (sm + t * w a))).1, ct_mix (a + 1) (fun j => if j = a then t else tv j) (ct_B cp w k (a + 1) (lf - t) (rm - (sm + t * w a))).2) = ct_app st (ct_g cp w k a lf (rm - sm) sm tv t) := by
  have e1 : ct_mix (a + 1) (fun j => if j = a then t else tv j) (ct_B cp w k (a + 1) (lf - t) (rm - (sm + t * w a))).2 = ct_mix a tv (fun j => if j = a then t else (ct_B cp w k (a + 1) (lf - t) (rm - (sm + t * w a))).2 j) :=
    ct_mix_succ (r := t) (fun j hj => if_neg (by omega)) (if_pos rfl)
  rw [e1, Nat.add_assoc]
  simp only [ct_g, ct_f]
  rw [Nat.sub_sub]
theorem sr_tv {ft ft1 : Nat → Int32} {tv : Nat → Nat} {a t : Nat} (h1 : ∀ j, j < a → ft1 j = ft j) (h2 : ∀ j, j < a → ft j = nI (tv j)) : ∀ j, j < a + 1 → upd ft1 a (nI t) j = nI (if j = a then t else tv j) := by
  intro j hj
  by_cases e : j = a
  · subst e; rw [pk_us, if_pos rfl]
  · rw [pk_un e, if_neg e, h1 j (by omega), h2 j (by omega)]
end
section
/-! the state of the mill, as the class and the reference both hold it -/
abbrev ST : Type := (Nat) × (Nat) × (Int32) × (Int32) × (Int32) × (Nat) × (Int32) × (Int32) × (Int32) × (Int32) × (Int32) × (Nat) × (Int32) × (Int32) × (Int64) × (Int64) × (Int64) × (Int64) × (Int64) × (Nat → Int32) × (Nat → Int32) × (Nat → Int32) × (Nat → Int32) × (Nat → Int32) × (Nat → Int32)
def s_gc (u : ST) : Nat := u.1
def s_mw (u : ST) : Nat := u.2.1
def s_mg (u : ST) : Int32 := u.2.2.1
def s_ch (u : ST) : Int32 := u.2.2.2.1
def s_up (u : ST) : Int32 := u.2.2.2.2.1
def s_oc (u : ST) : Nat := u.2.2.2.2.2.1
def s_sh (u : ST) : Int32 := u.2.2.2.2.2.2.1
def s_bk (u : ST) : Int32 := u.2.2.2.2.2.2.2.1
def s_li (u : ST) : Int32 := u.2.2.2.2.2.2.2.2.1
def s_fp (u : ST) : Int32 := u.2.2.2.2.2.2.2.2.2.1
def s_sp (u : ST) : Int32 := u.2.2.2.2.2.2.2.2.2.2.1
def s_hc (u : ST) : Nat := u.2.2.2.2.2.2.2.2.2.2.2.1
def s_ph (u : ST) : Int32 := u.2.2.2.2.2.2.2.2.2.2.2.2.1
def s_tr (u : ST) : Int32 := u.2.2.2.2.2.2.2.2.2.2.2.2.2.1
def s_st (u : ST) : Int64 := u.2.2.2.2.2.2.2.2.2.2.2.2.2.2.1
def s_fr (u : ST) : Int64 := u.2.2.2.2.2.2.2.2.2.2.2.2.2.2.2.1
def s_pa (u : ST) : Int64 := u.2.2.2.2.2.2.2.2.2.2.2.2.2.2.2.2.1
def s_lo (u : ST) : Int64 := u.2.2.2.2.2.2.2.2.2.2.2.2.2.2.2.2.2.1
def s_ma (u : ST) : Int64 := u.2.2.2.2.2.2.2.2.2.2.2.2.2.2.2.2.2.2.1
def s_we (u : ST) : Nat → Int32 := u.2.2.2.2.2.2.2.2.2.2.2.2.2.2.2.2.2.2.2.1
def s_og (u : ST) : Nat → Int32 := u.2.2.2.2.2.2.2.2.2.2.2.2.2.2.2.2.2.2.2.2.1
def s_ow (u : ST) : Nat → Int32 := u.2.2.2.2.2.2.2.2.2.2.2.2.2.2.2.2.2.2.2.2.2.1
def s_ol (u : ST) : Nat → Int32 := u.2.2.2.2.2.2.2.2.2.2.2.2.2.2.2.2.2.2.2.2.2.2.1
def s_ok (u : ST) : Nat → Int32 := u.2.2.2.2.2.2.2.2.2.2.2.2.2.2.2.2.2.2.2.2.2.2.2.1
def s_kd (u : ST) : Nat → Int32 := u.2.2.2.2.2.2.2.2.2.2.2.2.2.2.2.2.2.2.2.2.2.2.2.2
/-- what each hour took and gave -/
abbrev HX : Type := (Nat → Int32) × (Nat → Int32) × (Nat → Int32)
/-- the cutter's rows -/
abbrev CX : Type := (Nat → Int32) × (Nat → Int32) × (Nat → Int32) × (Nat → Int32) × (Nat → Int32) × (Nat → Int32) × Int32 × Int32
/-- the law's mill's own: what the last hour was -/
abbrev MX : Type := Int32
def wX (cI cC : ClassId) (ad : Nat → Nat) (u : ST) (v : HX) (x : CX) : va_W :=
  [(ad 0, .inr (4, [.ref (ad 1), .int (nI (s_gc u)), .int (nI (s_mw u)), .int (s_mg u), .int (s_ch u), .int (s_up u), .ref (ad 2), .ref (ad 7), .ref (ad 14), .ref (ad 15), .int (s_sh u), .int (s_bk u), .long (s_st u)])), (ad 1, .inl (cI, 6, .inl (s_we u))),
   (ad 2, .inr (3, [.ref (ad 3), .ref (ad 4), .ref (ad 5), .ref (ad 6), .int (nI (s_oc u))])), (ad 3, .inl (cI, 10, .inl (s_og u))), (ad 4, .inl (cI, 10, .inl (s_ow u))), (ad 5, .inl (cI, 10, .inl (s_ok u))), (ad 6, .inl (cI, 10, .inl (s_ol u))),
   (ad 7, .inr (1, [.ref (ad 8), .ref (ad 9), .ref (ad 10), .ref (ad 11), .ref (ad 12), .ref (ad 13), .int x.2.2.2.2.2.2.1, .int x.2.2.2.2.2.2.2])), (ad 8, .inl (cI, 10, .inl x.1)), (ad 9, .inl (cI, 10, .inl x.2.1)), (ad 10, .inl (cI, 10, .inl x.2.2.1)), (ad 11, .inl (cI, 10, .inl x.2.2.2.1)), (ad 12, .inl (cI, 10, .inl x.2.2.2.2.1)), (ad 13, .inl (cI, 801, .inl x.2.2.2.2.2.1)),
   (ad 14, .inr (0, [.int (s_li u), .int (s_fp u), .int (s_sp u)])),
   (ad 15, .inr (2, [.ref (ad 16), .ref (ad 17), .ref (ad 18), .ref (ad 19), .int (nI (s_hc u)), .long (s_fr u), .long (s_pa u), .long (s_lo u), .long (s_ma u), .long (Int32.toInt64 (s_tr u)), .int (s_ph u)])), (ad 16, .inl (cC, 400, .inl (s_kd u))), (ad 17, .inl (cI, 400, .inl v.1)), (ad 18, .inl (cI, 400, .inl v.2.1)), (ad 19, .inl (cI, 400, .inl v.2.2))]
def wM (cI cC : ClassId) (bd : Nat → Nat) (u : ST) (y : MX) : va_W :=
  [(bd 0, .inr (5, [.ref (bd 1), .ref (bd 2), .ref (bd 3), .ref (bd 4), .ref (bd 5), .int (nI (s_oc u)), .int (nI (s_mw u)), .int (s_mg u), .int (s_ch u), .int (s_up u), .int (s_sh u), .int (s_li u), .int (s_fp u), .int (s_sp u), .int (nI (s_hc u)), .long (s_fr u), .long (s_pa u), .long (s_lo u), .long (s_ma u), .long (s_st u), .int (s_ph u), .int (s_tr u), .int y])),
   (bd 1, .inl (cI, 3, .inl (s_we u))), (bd 2, .inl (cI, 10, .inl (s_og u))), (bd 3, .inl (cI, 10, .inl (s_ow u))), (bd 4, .inl (cI, 10, .inl (s_ol u))), (bd 5, .inl (cI, 10, .inl (s_ok u)))]
def isG (u : ST) (g : Int32) : Prop := 0 ≤ g ∧ g < nI (s_gc u)
def isO (u : ST) (o : Int32) : Prop := 0 ≤ o ∧ o < nI (s_oc u)
def k_addGrade (u : ST) (p : Int32) : Int32 := if ¬ (40 ≤ p ∧ p ≤ 200) ∨ f_tk (s_we u) p (s_gc u) = true then 1 else if 6 ≤ s_gc u then 2 else 0
def n_addGrade (u : ST) (p : Int32) : ST := (s_gc u + 1, s_mw u, s_mg u, s_ch u, s_up u, s_oc u, s_sh u, s_bk u, s_li u, s_fp u, s_sp u, s_hc u, s_ph u, s_tr u, s_st u, s_fr u, s_pa u, s_lo u, s_ma u, upd (s_we u) (s_gc u) p, s_og u, s_ow u, s_ol u, s_ok u, s_kd u)
def k_setWidth (u : ST) (p : Int32) : Int32 := if ¬ (200 ≤ p ∧ p ≤ 800) then 1 else if p < f_wo (s_ol u) (s_ow u) (s_oc u) then 2 else 0
def n_setWidth (u : ST) (p : Int32) : ST := (s_gc u, p.toNatClampNeg, s_mg u, s_ch u, s_up u, s_oc u, s_sh u, s_bk u, s_li u, s_fp u, s_sp u, s_hc u, s_ph u, s_tr u, s_st u, s_fr u, s_pa u, s_lo u, s_ma u, s_we u, s_og u, s_ow u, s_ol u, s_ok u, s_kd u)
def k_change (u : ST) (p : Int32) : Int32 := if ¬ (0 ≤ p ∧ p < nI (s_gc u)) then 1 else if p = s_mg u then 2 else if 0 < s_ch u then 3 else 0
def d_change (u : ST) (p : Int32) : Int32 := s_we u p.toNatClampNeg - s_we u (s_mg u).toNatClampNeg
def t_change (u : ST) (p : Int32) : Int32 := if 0 ≤ s_mg u then 1 + (if 0 ≤ d_change u p then d_change u p else 0 - d_change u p) / 40 else 1
def n_change (u : ST) (p : Int32) : ST := (s_gc u, s_mw u, p, t_change u p, (if 0 ≤ s_mg u then (if 0 < d_change u p then 1 else 0) else s_up u), s_oc u, s_sh u, s_bk u, s_li u, s_fp u, s_sp u, s_hc u, s_ph u, s_tr u, s_st u, s_fr u, s_pa u, s_lo u, s_ma u, s_we u, s_og u, s_ow u, s_ol u, s_ok u, s_kd u)
def k_grade (u : ST) : Int32 := if 0 ≤ s_mg u then 0 else 1
def op_u (u : ST) : Nat → Bool := fun i => decide (0 < f_rl (s_og u) (s_ol u) (nI i) (s_oc u))
def nr_u (u : ST) (w a : Int32) : Int32 := f_near (s_we u) (op_u u) w a (s_gc u)
def v_next (u : ST) : Int32 := if 0 ≤ s_mg u then (if nr_u u (s_we u (s_mg u).toNatClampNeg) (s_up u) = -1 then nr_u u (s_we u (s_mg u).toNatClampNeg) (if s_up u = 0 then 1 else 0) else nr_u u (s_we u (s_mg u).toNatClampNeg) (s_up u)) else nr_u u 0 1
def k_next (u : ST) : Int32 := if v_next u = -1 then 1 else 0
def v_mass (u : ST) (p : Int32) : Int32 := s_we u p.toNatClampNeg * nI (s_mw u) / 10
def k_mass (u : ST) (p : Int32) : Int32 := if 0 ≤ p ∧ p < nI (s_gc u) then 0 else 1
def k_order (u : ST) (p q r : Int32) : Int32 := if ¬ (0 ≤ p ∧ p < nI (s_gc u)) then 1 else if ¬ (20 ≤ q ∧ q ≤ 400) ∨ ¬ (1 ≤ r ∧ r ≤ 50) then 2 else if nI (s_mw u) < q then 3 else if 10 ≤ s_oc u then 4 else 0
def n_order (u : ST) (p q r : Int32) : ST := (s_gc u, s_mw u, s_mg u, s_ch u, s_up u, s_oc u + 1, s_sh u, s_bk u, s_li u, s_fp u, s_sp u, s_hc u, s_ph u, s_tr u, s_st u, s_fr u, s_pa u, s_lo u, s_ma u, s_we u, upd (s_og u) (s_oc u) p, upd (s_ow u) (s_oc u) q, upd (s_ol u) (s_oc u) r, s_ok u, s_kd u)
def k_ord (u : ST) (p : Int32) : Int32 := if 0 ≤ p ∧ p < nI (s_oc u) then 0 else 1
def k_cancel (u : ST) (p : Int32) : Int32 := if ¬ (0 ≤ p ∧ p < nI (s_oc u)) then 1 else if s_ol u p.toNatClampNeg ≤ 0 then 2 else 0
def n_cancel (u : ST) (p : Int32) : ST := (s_gc u, s_mw u, s_mg u, s_ch u, s_up u, s_oc u, s_sh u, s_bk u, s_li u, s_fp u, s_sp u, s_hc u, s_ph u, s_tr u, s_st u, s_fr u, s_pa u, s_lo u, s_ma u, s_we u, s_og u, s_ow u, upd (s_ol u) p.toNatClampNeg 0, s_ok u, s_kd u)
/-- the cut of a grade: its sum and its rolls -/
def c_w (u : ST) : Nat → Nat := fun j => (s_ow u j).toNatClampNeg
def c_lk (u : ST) : Nat → Nat := fun j => (s_ol u j).toNatClampNeg
def c_B (u : ST) (g : Int32) : Nat × (Nat → Nat) := ct_B (f_cap (s_og u) (c_lk u) (s_oc u) g) (c_w u) 10 0 6 (s_mw u)
def v_least (u : ST) (g : Int32) : Int32 := if (f_wl (s_og u) (s_ol u) (s_ow u) g (s_oc u) + nI (s_mw u) - 1) / nI (s_mw u) < (f_rl (s_og u) (s_ol u) g (s_oc u) + 6 - 1) / 6 then (f_rl (s_og u) (s_ol u) g (s_oc u) + 6 - 1) / 6 else (f_wl (s_og u) (s_ol u) (s_ow u) g (s_oc u) + nI (s_mw u) - 1) / nI (s_mw u)
def k_setShare (u : ST) (p : Int32) : Int32 := if 0 ≤ p ∧ p ≤ 50 then 0 else 1
def n_setShare (u : ST) (p : Int32) : ST := (s_gc u, s_mw u, s_mg u, s_ch u, s_up u, s_oc u, p, s_bk u, s_li u, s_fp u, s_sp u, s_hc u, s_ph u, s_tr u, s_st u, s_fr u, s_pa u, s_lo u, s_ma u, s_we u, s_og u, s_ow u, s_ol u, s_ok u, s_kd u)
def k_setContract (u : ST) (p q r : Int32) : Int32 := if (0 ≤ p ∧ p ≤ 9999) ∧ (0 ≤ q ∧ q ≤ 99) ∧ (0 ≤ r ∧ r ≤ 99) then 0 else 1
def n_setContract (u : ST) (p q r : Int32) : ST := (s_gc u, s_mw u, s_mg u, s_ch u, s_up u, s_oc u, s_sh u, s_bk u, p, q, r, s_hc u, s_ph u, s_tr u, s_st u, s_fr u, s_pa u, s_lo u, s_ma u, s_we u, s_og u, s_ow u, s_ol u, s_ok u, s_kd u)
def m_fib (p : Int32) : Int32 := p + p / 50
def m_fed (bk sh p : Int32) : Int32 := if m_fib p * sh / 100 < bk then m_fib p * sh / 100 else bk
/-- an hour that makes the mass p, of which b is broke; its sign is c -/
def u_make (u : ST) (c p b : Int32) : ST := (s_gc u, s_mw u, s_mg u, s_ch u, s_up u, s_oc u, s_sh u, s_bk u + (b - m_fed (s_bk u) (s_sh u) p), s_li u, s_fp u, s_sp u, s_hc u + 1, s_ph u, s_tr u, s_st u + f_cost (s_li u) (s_fp u) (s_sp u) (p / 2), s_fr u + Int32.toInt64 (m_fib p - m_fed (s_bk u) (s_sh u) p), s_pa u + Int32.toInt64 (p - b), s_lo u + Int32.toInt64 (p / 50), s_ma u + Int32.toInt64 p, s_we u, s_og u, s_ow u, s_ol u, s_ok u, upd (s_kd u) (s_hc u) c)
def v_make (u : ST) (v : HX) (p b : Int32) : HX := (upd v.1 (s_hc u) (m_fib p - m_fed (s_bk u) (s_sh u) p), upd v.2.1 (s_hc u) (p - b), upd v.2.2 (s_hc u) (p / 50))
def u_none (u : ST) : ST := (s_gc u, s_mw u, s_mg u, s_ch u, s_up u, s_oc u, s_sh u, s_bk u, s_li u, s_fp u, s_sp u, s_hc u + 1, s_ph u, s_tr u, s_st u, s_fr u + Int32.toInt64 0, s_pa u + Int32.toInt64 0, s_lo u + Int32.toInt64 0, s_ma u, s_we u, s_og u, s_ow u, s_ol u, s_ok u, upd (s_kd u) (s_hc u) 110)
def v_none (u : ST) (v : HX) : HX := (upd v.1 (s_hc u) 0, upd v.2.1 (s_hc u) 0, upd v.2.2 (s_hc u) 0)
def u_chg (u : ST) : ST := (s_gc u, s_mw u, s_mg u, s_ch u - 1, s_up u, s_oc u, s_sh u, s_bk u, s_li u, s_fp u, s_sp u, s_hc u, s_ph u, s_tr u, s_st u, s_fr u, s_pa u, s_lo u, s_ma u, s_we u, s_og u, s_ow u, s_ol u, s_ok u, s_kd u)
def ro_u (u : ST) : Nat → Int32 := fun j => nI ((c_B u (s_mg u)).2 j)
def u_cut (u : ST) (t : Int32) : ST := (s_gc u, s_mw u, s_mg u, s_ch u, s_up u, s_oc u, s_sh u, s_bk u, s_li u, s_fp u, s_sp u, s_hc u, s_ph u + 1, s_tr u + t, s_st u, s_fr u, s_pa u, s_lo u, s_ma u, s_we u, s_og u, s_ow u, f_subN (s_ol u) (ro_u u) (s_oc u), f_addN (s_ok u) (ro_u u) (s_oc u), s_kd u)
def ms_u (u : ST) : Int32 := v_mass u (s_mg u)
def tr_u (u : ST) : Int32 := nI (s_mw u) - nI (c_B u (s_mg u)).1
def b_u (u : ST) : Int32 := ms_u u * tr_u u / nI (s_mw u)
/-- an hour: rolls that are cut, the state and the book behind it -/
def h_r (u : ST) : Int32 := if ¬ 0 ≤ s_mg u then 0 else if 0 < s_ch u then 0 else if 0 < (c_B u (s_mg u)).1 then f_sum (ro_u u) (s_oc u) else 0
def u_paper (u : ST) : ST := (fun w : ST => (s_gc w, s_mw w, s_mg w, s_ch w, s_up w, s_oc w, s_sh w, s_bk w, s_li w, s_fp w, s_sp w, s_hc w, s_ph w + 1, s_tr w + tr_u u, s_st w, s_fr w, s_pa w, s_lo w, s_ma w, s_we w, s_og w, s_ow w, f_subN (s_ol u) (ro_u u) (s_oc u), f_addN (s_ok u) (ro_u u) (s_oc u), s_kd w)) (u_make u 112 (ms_u u) (b_u u))
def h_u (u : ST) : ST := if ¬ 0 ≤ s_mg u then u_none u else if 0 < s_ch u then u_chg (u_make u 99 (ms_u u) (ms_u u)) else if 0 < (c_B u (s_mg u)).1 then u_paper u else u_none u
def h_v (u : ST) (v : HX) : HX := if ¬ 0 ≤ s_mg u then v_none u v else if 0 < s_ch u then v_make u v (ms_u u) (ms_u u) else if 0 < (c_B u (s_mg u)).1 then v_make u v (ms_u u) (b_u u) else v_none u v
def p_u (u : ST) : Nat → ST
  | 0 => u
  | k + 1 => h_u (p_u u k)
def p_r (u : ST) : Nat → Int32
  | 0 => 0
  | k + 1 => p_r u k + h_r (p_u u k)
def p_v (u : ST) (v : HX) : Nat → HX
  | 0 => v
  | k + 1 => h_v (p_u u k) (p_v u v k)
def k_pass (u : ST) (p : Int32) : Int32 := if ¬ (1 ≤ p ∧ p ≤ 48) then 1 else if nI (400 - s_hc u) < p then 2 else 0
def k_made (u : ST) (p : Int32) : Int32 := if 0 ≤ p ∧ p < nI (s_hc u) then 0 else 1
def k_share (u : ST) : Int32 := if 0 < s_ma u then 0 else 1
def k_trim (u : ST) : Int32 := if 0 < s_ph u then 0 else 1
/-- what holds between calls -/
def Inv (u : ST) : Prop :=
  s_gc u ≤ 6 ∧ (200 ≤ s_mw u ∧ s_mw u ≤ 800) ∧ (s_mg u = -1 ∧ s_up u = 1 ∧ s_ch u = 0 ∨ ∃ g, g < s_gc u ∧ s_mg u = nI g) ∧ (s_up u = 0 ∨ s_up u = 1) ∧ 0 ≤ (s_ch u).toInt ∧ s_oc u ≤ 10 ∧ (0 ≤ (s_sh u).toInt ∧ (s_sh u).toInt ≤ 50) ∧
  (0 ≤ (s_li u).toInt ∧ (s_li u).toInt ≤ 9999) ∧ (0 ≤ (s_fp u).toInt ∧ (s_fp u).toInt ≤ 99) ∧ (0 ≤ (s_sp u).toInt ∧ (s_sp u).toInt ≤ 99) ∧ s_hc u ≤ 400 ∧ (0 ≤ (s_ph u).toInt ∧ (s_ph u).toInt ≤ s_hc u) ∧ (0 ≤ (s_tr u).toInt ∧ (s_tr u).toInt ≤ 800 * s_hc u) ∧ (0 ≤ (s_ma u).toInt ∧ (s_ma u).toInt ≤ 16000 * s_hc u) ∧ (0 ≤ (s_pa u).toInt ∧ (s_pa u).toInt ≤ 16000 * s_hc u) ∧
  (∀ j, j < s_gc u → 40 ≤ (s_we u j).toInt ∧ (s_we u j).toInt ≤ 200) ∧ (∀ j, 0 ≤ (s_ow u j).toInt ∧ (s_ow u j).toInt ≤ 400) ∧ (∀ j, j < s_oc u → 20 ≤ (s_ow u j).toInt ∧ ∃ g, g < s_gc u ∧ s_og u j = nI g) ∧ (∀ j, 0 ≤ (s_ol u j).toInt ∧ (s_ol u j).toInt ≤ 50) ∧ (∀ j, s_oc u ≤ j → s_ok u j = 0)
/-- the class's book of hours holds the broke -/
def InvV (u : ST) (v : HX) : Prop := f_fs v.1 v.2.1 v.2.2 (s_hc u) = s_bk u
end
section
theorem ct_B_zero (cap w : Nat → Nat) (hpos : ∀ j, j < 10 → 0 < cap j → 0 < w j) : ∀ (k a left room : Nat), a + k ≤ 10 → (ct_B cap w k a left room).1 = 0 → ∀ j, (ct_B cap w k a left room).2 j = 0
  | 0, _, _, _, _, _, _ => rfl
  | k + 1, a, left, room, ha, h, j => by
    rw [ct_B_succ] at h ⊢
    obtain ⟨r, h1, h2⟩ := ct_D_ex (ct_f cap w k a left room) (min (min (cap a) left) (room / w a))
    rw [h2] at h ⊢
    have h3 : r * w a + (ct_B cap w k (a + 1) (left - r) (room - r * w a)).1 = 0 := h
    have h4 : r = 0 := by
      rcases Nat.eq_zero_or_pos r with q | q
      · exact q
      · have h5 := hpos a (by omega) (by omega)
        have := Nat.mul_pos q h5
        omega
    show (if j = a then r else (ct_B cap w k (a + 1) (left - r) (room - r * w a)).2 j) = 0
    by_cases e : j = a
    · rw [if_pos e]; exact h4
    · rw [if_neg e]; exact ct_B_zero cap w hpos k (a + 1) _ _ (by omega) (by omega) j
theorem sr_start {cp w : Nat → Nat} {bs2 : Int32} {fb2 : Nat → Int32} {tv : Nat → Nat} {rm : Nat} (hrm : rm ≤ 800) (hpos : ∀ j, j < 10 → 0 < cp j → 0 < w j)
    (h : sr_ok bs2 fb2 (ct_app ((0 : Int32), fun _ => 0) (0 + (ct_B cp w 10 0 6 (rm - 0)).1, ct_mix 0 tv (ct_B cp w 10 0 6 (rm - 0)).2))) :
    bs2 = nI (ct_B cp w 10 0 6 rm).1 ∧ ∀ j, j < 10 → fb2 j = nI ((ct_B cp w 10 0 6 rm).2 j) := by
  rw [Nat.sub_zero, Nat.zero_add] at h
  have hr := ct_B_room cp w 10 0 6 rm
  have e : ct_mix 0 tv (ct_B cp w 10 0 6 rm).2 = (ct_B cp w 10 0 6 rm).2 := by
    funext j
    simp only [ct_mix]
    rw [if_neg (Nat.not_lt_zero j)]
  rw [e] at h
  rcases Nat.eq_zero_or_pos (ct_B cp w 10 0 6 rm).1 with q | q
  · have e2 : ct_app ((0 : Int32), fun _ => 0) ((ct_B cp w 10 0 6 rm).1, (ct_B cp w 10 0 6 rm).2) = ((0 : Int32), fun _ => 0) := by
      refine if_neg ?_
      rw [q]
      exact fun z => absurd z (by decide)
    rw [e2] at h
    refine ⟨by rw [q]; exact h.1, fun j hj => ?_⟩
    rw [ct_B_zero cp w hpos 10 0 6 rm (by omega) q j]
    exact h.2 j hj
  · have e2 : ct_app ((0 : Int32), fun _ => 0) ((ct_B cp w 10 0 6 rm).1, (ct_B cp w 10 0 6 rm).2) = (nI (ct_B cp w 10 0 6 rm).1, (ct_B cp w 10 0 6 rm).2) :=
      if_pos ((nI_ltI (a := 0) (by omega) (by omega)).mpr q)
    rw [e2] at h
    exact h
def f_op (og ol : Nat → Int32) (k : Nat) : Nat → Bool := fun i => decide (0 < f_rl og ol (nI i) k)
end
section
/-! the reference's ways to say the same -/
theorem m_in {p : Int32} {G : Nat} (hG : G ≤ 1000) : (0 ≤ p ∧ p ≤ nI G - 1) ↔ (0 ≤ p ∧ p < nI G) := by
  have e : (nI G - 1).toInt = (G : Int) - 1 := pk_sub_toInt (a := G) (b := 1) (by omega) (by omega)
  have e2 : (nI G).toInt = G := nI_toInt (by omega)
  refine ⟨fun h => ⟨h.1, ?_⟩, fun h => ⟨h.1, ?_⟩⟩
  · have := h.2
    rw [fa_le, e] at this
    rw [fa_lt, e2]
    omega
  · have := h.2
    rw [fa_lt, e2] at this
    rw [fa_le, e]
    omega
def f_ho (og ol : Nat → Int32) (g : Int32) : Nat → Bool
  | 0 => false
  | i + 1 => f_ho og ol g i || (decide (og i = g) && decide (0 < ol i))
theorem f_rl_b {og ol : Nat → Int32} {g : Int32} (h : ∀ j, 0 ≤ (ol j).toInt ∧ (ol j).toInt ≤ 50) : ∀ k, k ≤ 1000 → 0 ≤ (f_rl og ol g k).toInt ∧ (f_rl og ol g k).toInt ≤ 50 * k ∧ (0 < (f_rl og ol g k).toInt ↔ f_ho og ol g k = true)
  | 0, _ => ⟨by rw [f_rl]; decide, by rw [f_rl]; decide, by simp [f_rl, f_ho]⟩
  | k + 1, hk => by
    obtain ⟨h1, h2, h3⟩ := f_rl_b (og := og) (g := g) h k (by omega)
    obtain ⟨q1, q2⟩ := h k
    rw [f_rl, f_ho]
    by_cases c : og k = g
    · rw [if_pos c]
      have e : (f_rl og ol g k + ol k).toInt = (f_rl og ol g k).toInt + (ol k).toInt := fb_addI (by omega) (by omega)
      rw [e]
      refine ⟨by omega, by omega, ?_⟩
      have e0 : (0 : Int32) < ol k ↔ 0 < (ol k).toInt := by rw [fa_lt]; exact Iff.rfl
      simp only [c, decide_true, Bool.true_and, Bool.or_eq_true, decide_eq_true_eq, ← h3, e0]
      omega
    · rw [if_neg c]
      refine ⟨h1, by omega, ?_⟩
      simp only [c, decide_false, Bool.false_and, Bool.or_false]
      exact h3
theorem f_op_ho {og ol : Nat → Int32} {k : Nat} (hk : k ≤ 1000) (h : ∀ j, 0 ≤ (ol j).toInt ∧ (ol j).toInt ≤ 50) (i : Nat) : f_op og ol k i = f_ho og ol (nI i) k := by
  have h3 := (f_rl_b (og := og) (g := nI i) h k hk).2.2
  have e0 : (0 : Int32) < f_rl og ol (nI i) k ↔ 0 < (f_rl og ol (nI i) k).toInt := by rw [fa_lt]; exact Iff.rfl
  unfold f_op
  rw [← Bool.decide_coe (f_ho og ol (nI i) k)]
  exact decide_eq_decide.mpr (e0.trans h3)
def f_nf (we : Nat → Int32) (op : Nat → Bool) (w a : Int32) : Nat → Int32
  | 0 => -1
  | i + 1 => if (op i = true ∧ (if a = 0 then we i < w else w < we i)) ∧ (f_nf we op w a i = -1 ∨ (if a = 0 then we (f_nf we op w a i).toNatClampNeg < we i else we i < we (f_nf we op w a i).toNatClampNeg)) then nI i else f_nf we op w a i
theorem f_nf_in (we : Nat → Int32) (op : Nat → Bool) (w a : Int32) : ∀ k, k ≤ 1000 → f_nf we op w a k = -1 ∨ ∃ j, j < k ∧ f_nf we op w a k = nI j
  | 0, _ => Or.inl rfl
  | k + 1, hk => by
    have q : f_nf we op w a (k + 1) = nI k ∨ f_nf we op w a (k + 1) = f_nf we op w a k := (Classical.em _).elim (fun c => Or.inl (if_pos c)) (fun c => Or.inr (if_neg c))
    rcases q with q | q
    · exact Or.inr ⟨k, by omega, q⟩
    · rw [q]
      rcases f_nf_in we op w a k (by omega) with h | ⟨j, h1, h2⟩
      · exact Or.inl h
      · exact Or.inr ⟨j, by omega, h2⟩
theorem f_nf_near {we : Nat → Int32} {op op2 : Nat → Bool} {w a : Int32} {G : Nat} (hG : G ≤ 1000) (hop : ∀ i, op i = op2 i) (hw : 0 ≤ w.toInt ∧ w.toInt ≤ 200) (hwe : ∀ j, j < G → 40 ≤ (we j).toInt ∧ (we j).toInt ≤ 200) : ∀ k, k ≤ G → f_near we op w a k = f_nf we op2 w a k
  | 0, _ => rfl
  | k + 1, hk => by
    have ih := f_nf_near hG hop hw hwe (a := a) k (by omega)
    rw [f_near, f_nf, ih, hop k]
    have hd : ∀ j, j < G → (f_dist we w a j).toInt = if a = 0 then w.toInt - (we j).toInt else (we j).toInt - w.toInt := fun j hj => by
      obtain ⟨q1, q2⟩ := hwe j hj
      unfold f_dist
      split
      · exact fb_subI (by omega) (by omega)
      · exact fb_subI (by omega) (by omega)
    have d1 := hd k (by omega)
    have e1 : (0 < f_dist we w a k) ↔ (if a = 0 then we k < w else w < we k) := by
      rw [fa_lt, d1]
      show (0 : Int) < _ ↔ _
      split
      · rw [fa_lt]; omega
      · rw [fa_lt]; omega
    have e2 : ∀ j, j < G → (f_dist we w a k < f_dist we w a j ↔ (if a = 0 then we j < we k else we k < we j)) := fun j hj => by
      rw [fa_lt, d1, hd j hj]
      split
      · rw [fa_lt]; omega
      · rw [fa_lt]; omega
    have e3 : (f_nf we op2 w a k = -1 ∨ f_dist we w a k < f_dist we w a (f_nf we op2 w a k).toNatClampNeg) ↔ (f_nf we op2 w a k = -1 ∨ (if a = 0 then we (f_nf we op2 w a k).toNatClampNeg < we k else we k < we (f_nf we op2 w a k).toNatClampNeg)) := by
      rcases f_nf_in we op2 w a k (by omega) with h | ⟨j, h1, h2⟩
      · exact ⟨fun _ => Or.inl h, fun _ => Or.inl h⟩
      · have ej : (f_nf we op2 w a k).toNatClampNeg = j := by rw [h2, nI_clamp (by omega)]
        rw [ej]
        exact or_congr Iff.rfl (e2 j (by omega))
    by_cases c : (op2 k = true ∧ (if a = 0 then we k < w else w < we k)) ∧ (f_nf we op2 w a k = -1 ∨ (if a = 0 then we (f_nf we op2 w a k).toNatClampNeg < we k else we k < we (f_nf we op2 w a k).toNatClampNeg))
    · rw [if_pos c, if_pos ⟨⟨e1.mpr c.1.2, e3.mpr c.2⟩, c.1.1⟩]
    · rw [if_neg c, if_neg (fun h => c ⟨⟨h.2, e1.mp h.1.1⟩, e3.mp h.1.2⟩)]
def f_iw (ol ow : Nat → Int32) (p : Int32) : Nat → Bool
  | 0 => false
  | i + 1 => f_iw ol ow p i || (decide (0 < ol i) && decide (p < ow i))
theorem f_iw_wo {ol ow : Nat → Int32} {p : Int32} (hp : 0 ≤ p) : ∀ k, f_iw ol ow p k = true ↔ p < f_wo ol ow k
  | 0 => by simp only [f_iw, f_wo]; exact ⟨fun h => absurd h Bool.false_ne_true, fun h => absurd h (Int32.not_lt.mpr hp)⟩
  | k + 1 => by
    have ih := f_iw_wo hp (ol := ol) (ow := ow) k
    rw [f_iw, f_wo, Bool.or_eq_true, ih]
    by_cases c : 0 < ol k
    · rw [if_pos c]
      simp only [c, decide_true, Bool.true_and, decide_eq_true_eq]
      by_cases c2 : f_wo ol ow k < ow k
      · rw [if_pos c2]
        exact ⟨fun h => h.elim (fun q => Int32.lt_trans q c2) id, Or.inr⟩
      · rw [if_neg c2]
        exact ⟨fun h => h.elim id (fun q => Int32.lt_of_lt_of_le q (Int32.not_lt.mp c2)), Or.inl⟩
    · rw [if_neg c]
      simp only [c, decide_false, Bool.false_and, Bool.false_eq_true, or_false]
/-- the reference's tries: what is kept for the first N orders -/
def sr_okN (N : Nat) (bs : Int32) (fb : Nat → Int32) (st : Int32 × (Nat → Nat)) : Prop := bs = st.1 ∧ ∀ j, j < N → fb j = nI (st.2 j)
theorem tr_start {cp w : Nat → Nat} {bs2 : Int32} {fb2 : Nat → Int32} {bv tv : Nat → Nat} {K rm : Nat} (hrm : rm ≤ 800)
    (h : sr_okN K bs2 fb2 (ct_app ((-1 : Int32), bv) (0 + (ct_B cp w K 0 (6 - 0) (rm - 0)).1, ct_mix 0 tv (ct_B cp w K 0 (6 - 0) (rm - 0)).2))) :
    bs2 = nI (ct_B cp w K 0 6 rm).1 ∧ ∀ j, j < K → fb2 j = nI ((ct_B cp w K 0 6 rm).2 j) := by
  simp only [Nat.sub_zero, Nat.zero_add] at h
  have hr := ct_B_room cp w K 0 6 rm
  have e : ct_mix 0 tv (ct_B cp w K 0 6 rm).2 = (ct_B cp w K 0 6 rm).2 := by
    funext j
    simp only [ct_mix]
    rw [if_neg (Nat.not_lt_zero j)]
  rw [e] at h
  have e2 : ct_app ((-1 : Int32), bv) ((ct_B cp w K 0 6 rm).1, (ct_B cp w K 0 6 rm).2) = (nI (ct_B cp w K 0 6 rm).1, (ct_B cp w K 0 6 rm).2) :=
    if_pos (Int32.lt_of_lt_of_le (by decide : (-1 : Int32) < 0) (nI_pos' (n := (ct_B cp w K 0 6 rm).1) (by omega)))
  rw [e2] at h
  exact h
/-- the cut by the reference's numbers is the class's -/
theorem c_B_ref (u : ST) (g : Int32) (hoc : s_oc u ≤ 10) : (ct_B (fun j => if s_og u j = g then c_lk u j else 0) (c_w u) (s_oc u) 0 6 (s_mw u)).1 = (c_B u g).1 ∧ ∀ j, (ct_B (fun j => if s_og u j = g then c_lk u j else 0) (c_w u) (s_oc u) 0 6 (s_mw u)).2 j = (c_B u g).2 j := by
  have e1 : ct_B (fun j => if s_og u j = g then c_lk u j else 0) (c_w u) (s_oc u) 0 6 (s_mw u) = ct_B (f_cap (s_og u) (c_lk u) (s_oc u) g) (c_w u) (s_oc u) 0 6 (s_mw u) := by
    refine ct_B_cong _ _ _ _ (fun j h1 h2 => ⟨?_, fun _ => rfl⟩)
    simp only [f_cap]
    by_cases c : s_og u j = g
    · rw [if_pos c, if_pos ⟨by omega, c⟩]; omega
    · rw [if_neg c, if_neg (fun h => c h.2)]
  have h := ct_B_more (f_cap (s_og u) (c_lk u) (s_oc u) g) (c_w u) (10 - s_oc u) (s_oc u) 0 6 (s_mw u) (fun j hj => by
    simp only [f_cap]
    rw [if_neg (fun z => absurd z.1 (by omega))])
  rw [show s_oc u + (10 - s_oc u) = 10 by omega] at h
  rw [e1]
  exact ⟨h.1.symm, fun j => (h.2 j).symm⟩
theorem tr_try {cp w : Nat → Nat} {k a rl sm rm t : Nat} {tv : Nat → Nat} {st : Int32 × (Nat → Nat)} (h1 : t ≤ 6 - rl) :
    ct_app st (sm + t * w a + (ct_B cp w k (a + 1) (6 - (rl + t)) (rm - (sm + t * w a))).1, ct_mix (a + 1) (fun j => if j = a then t else tv j) (ct_B cp w k (a + 1) (6 - (rl + t)) (rm - (sm + t * w a))).2) = ct_app st (ct_g cp w k a (6 - rl) (rm - sm) sm tv t) := by
  have e1 : ct_mix (a + 1) (fun j => if j = a then t else tv j) (ct_B cp w k (a + 1) (6 - (rl + t)) (rm - (sm + t * w a))).2 = ct_mix a tv (fun j => if j = a then t else (ct_B cp w k (a + 1) (6 - (rl + t)) (rm - (sm + t * w a))).2 j) :=
    ct_mix_succ (r := t) (fun j hj => if_neg (by omega)) (if_pos rfl)
  rw [e1, Nat.add_assoc]
  simp only [ct_g, ct_f]
  rw [Nat.sub_sub, Nat.sub_sub]
theorem tr_base {cp w : Nat → Nat} {bs : Int32} {fb fb2 ft : Nat → Int32} {bv tv : Nat → Nat} {K sm rm lf : Nat} (c : bs < nI sm) (h2 : ∀ j, j < K → fb2 j = ft j) (hft : ∀ j, j < K → ft j = nI (tv j)) :
    sr_okN K (nI sm) fb2 (ct_app (bs, bv) (sm + (ct_B cp w 0 K lf (rm - sm)).1, ct_mix K tv (ct_B cp w 0 K lf (rm - sm)).2)) := by
  simp only [ct_B, Nat.add_zero]
  rw [show ct_app (bs, bv) (sm, ct_mix K tv fun _ => 0) = (nI sm, ct_mix K tv fun _ => 0) from if_pos c]
  refine ⟨rfl, fun j hj => ?_⟩
  rw [h2 j hj, hft j hj]
  simp only [ct_mix]
  rw [if_pos hj]
theorem tr_base0 {cp w : Nat → Nat} {bs : Int32} {fb : Nat → Int32} {bv tv : Nat → Nat} {K sm rm lf : Nat} (c : ¬ bs < nI sm) (hfb : ∀ j, j < K → fb j = nI (bv j)) :
    sr_okN K bs fb (ct_app (bs, bv) (sm + (ct_B cp w 0 K lf (rm - sm)).1, ct_mix K tv (ct_B cp w 0 K lf (rm - sm)).2)) := by
  simp only [ct_B, Nat.add_zero]
  rw [show ct_app (bs, bv) (sm, ct_mix K tv fun _ => 0) = (bs, bv) from if_neg c]
  exact ⟨rfl, hfb⟩
theorem m_cost {li fp sp p : Int32} (hl : 0 ≤ li.toInt ∧ li.toInt ≤ 9999) (hf : 0 ≤ fp.toInt ∧ fp.toInt ≤ 99) (hs : 0 ≤ sp.toInt ∧ sp.toInt ≤ 99) (hp : 0 ≤ p.toInt ∧ p.toInt ≤ 16000) :
    Int32.toInt64 ((if p < li then p else li) * fp + (p - (if p < li then p else li)) * sp) = f_cost li fp sp p := by
  have e : (if p < li then p else li) = (if li < p then li else p) := by
    rcases fa_three p li with h | h | h
    · rw [if_pos h, if_neg (fa_of_lt h).2.2.1]
    · subst h; rw [if_neg (by rw [fa_lt]; omega)]
    · rw [if_pos h, if_neg (fa_of_lt h).2.2.1]
  rw [e]
  unfold f_cost
  obtain ⟨x, hx⟩ : ∃ x, x = (if li < p then li else p) := ⟨_, rfl⟩
  rw [← hx]
  have bx : 0 ≤ x.toInt ∧ x.toInt ≤ 9999 ∧ x.toInt ≤ p.toInt := by
    rw [hx]
    split
    · rename_i h; rw [fa_lt] at h; omega
    · rename_i h; rw [fa_lt] at h; omega
  have e1 : (x * fp).toInt = x.toInt * fp.toInt := by
    have h1 : 0 ≤ x.toInt * fp.toInt := Int.mul_nonneg bx.1 hf.1
    have h2 : x.toInt * fp.toInt ≤ 9999 * 99 := Int.mul_le_mul bx.2.1 hf.2 hf.1 (by decide)
    exact fb_mulI (by omega) (by omega)
  have e2 : (p - x).toInt = p.toInt - x.toInt := fb_subI (by omega) (by omega)
  have b3 : 0 ≤ (p.toInt - x.toInt) * sp.toInt := Int.mul_nonneg (by omega) hs.1
  have b4 : (p.toInt - x.toInt) * sp.toInt ≤ 16000 * 99 := Int.mul_le_mul (by omega) hs.2 hs.1 (by decide)
  have e3 : ((p - x) * sp).toInt = (p.toInt - x.toInt) * sp.toInt := by
    rw [← e2]
    exact fb_mulI (by rw [e2]; omega) (by rw [e2]; omega)
  have h1 : 0 ≤ x.toInt * fp.toInt := Int.mul_nonneg bx.1 hf.1
  have h2 : x.toInt * fp.toInt ≤ 9999 * 99 := Int.mul_le_mul bx.2.1 hf.2 hf.1 (by decide)
  apply Int64.toInt.inj
  have l1 : (Int32.toInt64 x * Int32.toInt64 fp).toInt = x.toInt * fp.toInt := by
    rw [fb_mulL (by rw [Int32.toInt_toInt64, Int32.toInt_toInt64]; omega) (by rw [Int32.toInt_toInt64, Int32.toInt_toInt64]; omega), Int32.toInt_toInt64, Int32.toInt_toInt64]
  have l2 : (Int32.toInt64 (p - x) * Int32.toInt64 sp).toInt = (p.toInt - x.toInt) * sp.toInt := by
    rw [fb_mulL (by rw [Int32.toInt_toInt64, Int32.toInt_toInt64, e2]; omega) (by rw [Int32.toInt_toInt64, Int32.toInt_toInt64, e2]; omega), Int32.toInt_toInt64, Int32.toInt_toInt64, e2]
  rw [fb_addL (by rw [l1, l2]; omega) (by rw [l1, l2]; omega), l1, l2, Int32.toInt_toInt64, fb_addI (by rw [e1, e3]; omega) (by rw [e1, e3]; omega), e1, e3]
/-- the grades that have orders -/
def f_hoz (og ol : Nat → Int32) (k : Nat) : Nat → Bool := fun i => f_ho og ol (nI i) k
/-- what a cut may take of each order -/
def m_cap (og : Nat → Int32) (lk : Nat → Nat) (g : Int32) : Nat → Nat := fun j => if og j = g then lk j else 0
theorem m_cap_t {og : Nat → Int32} {lk : Nat → Nat} {g : Int32} {j : Nat} (h : og j = g) : m_cap og lk g j = lk j := if_pos h
theorem m_cap_f {og : Nat → Int32} {lk : Nat → Nat} {g : Int32} {j : Nat} (h : og j ≠ g) : m_cap og lk g j = 0 := if_neg h
theorem m_cap_le {og : Nat → Int32} {lk : Nat → Nat} {g : Int32} {j : Nat} {M : Nat} (h : lk j ≤ M) : m_cap og lk g j ≤ M := by
  unfold m_cap; split <;> omega
theorem m_min_t {a b : Nat} (ha : a < 2 ^ 31) (hb : b < 2 ^ 31) (c : nI b ≤ nI a) : nI b = nI (min a b) := by
  rw [Nat.min_eq_right ((nI_leI hb ha).mp c)]
theorem m_min_f {a b : Nat} (ha : a < 2 ^ 31) (hb : b < 2 ^ 31) (c : ¬ nI b ≤ nI a) : nI a = nI (min a b) := by
  rw [Nat.min_eq_left (Nat.le_of_not_le (fun z => c ((nI_leI hb ha).mpr z)))]
end
