section
-- ===== PART A: goes FIRST, ahead of the names: the tables' words, and 'selects' of the private methods out of them =====
/-- a private method of a class that the tables say can be made, by its rows of tables_1 -/
def lw_okq (q : MethodName × Nat) : Prop := (q.1.cls ≠ "java/lang/invoke/MethodHandle" ∧ q.1.cls ≠ "java/lang/invoke/VarHandle") ∧ Cond.instantiable q.1.cls q.2 ∈ tables_1 ∧ Cond.privateMethod q.1 ∈ tables_1 ∧ Cond.instanceMethod q.1 ∈ tables_1
theorem lw_p0 : lw_okq (⟨"java/lang/Throwable", "fillInStackTrace", "(I)Ljava/lang/Throwable;"⟩, 6) := ⟨⟨by decide +kernel, by decide +kernel⟩, List.mem_of_getElem? (i := 233) (by decide +kernel), List.mem_of_getElem? (i := 231) (by decide +kernel), List.mem_of_getElem? (i := 232) (by decide +kernel)⟩
theorem lw_p1 : lw_okq (⟨"ColdCreamery", "existingChurn", "(I)LColdCreamery$Churn;"⟩, 2) := ⟨⟨by decide +kernel, by decide +kernel⟩, List.mem_of_getElem? (i := 16) (by decide +kernel), List.mem_of_getElem? (i := 331) (by decide +kernel), List.mem_of_getElem? (i := 332) (by decide +kernel)⟩
theorem lw_p2 : lw_okq (⟨"ColdCreamery", "existingTub", "(I)LColdCreamery$Tub;"⟩, 2) := ⟨⟨by decide +kernel, by decide +kernel⟩, List.mem_of_getElem? (i := 16) (by decide +kernel), List.mem_of_getElem? (i := 368) (by decide +kernel), List.mem_of_getElem? (i := 369) (by decide +kernel)⟩
theorem lw_p3 : lw_okq (⟨"ColdCreamery$Cellar", "runHour", "()V"⟩, 9) := ⟨⟨by decide +kernel, by decide +kernel⟩, List.mem_of_getElem? (i := 24) (by decide +kernel), List.mem_of_getElem? (i := 418) (by decide +kernel), List.mem_of_getElem? (i := 419) (by decide +kernel)⟩
theorem lw_p4 : lw_okq (⟨"ColdCreamery$Cellar", "servePeople", "(I)V"⟩, 9) := ⟨⟨by decide +kernel, by decide +kernel⟩, List.mem_of_getElem? (i := 24) (by decide +kernel), List.mem_of_getElem? (i := 436) (by decide +kernel), List.mem_of_getElem? (i := 437) (by decide +kernel)⟩
theorem lw_p5 : lw_okq (⟨"ColdCreamery$Cellar", "serveOne", "()V"⟩, 9) := ⟨⟨by decide +kernel, by decide +kernel⟩, List.mem_of_getElem? (i := 24) (by decide +kernel), List.mem_of_getElem? (i := 440) (by decide +kernel), List.mem_of_getElem? (i := 441) (by decide +kernel)⟩
theorem lw_p6 : lw_okq (⟨"ColdCreameryModel", "no", "(I)I"⟩, 6) := ⟨⟨by decide +kernel, by decide +kernel⟩, List.mem_of_getElem? (i := 496) (by decide +kernel), List.mem_of_getElem? (i := 532) (by decide +kernel), List.mem_of_getElem? (i := 533) (by decide +kernel)⟩
theorem lw_p7 : lw_okq (⟨"ColdCreameryModel", "isChurn", "(I)Z"⟩, 6) := ⟨⟨by decide +kernel, by decide +kernel⟩, List.mem_of_getElem? (i := 496) (by decide +kernel), List.mem_of_getElem? (i := 555) (by decide +kernel), List.mem_of_getElem? (i := 556) (by decide +kernel)⟩
theorem lw_p8 : lw_okq (⟨"ColdCreameryModel", "packed", "(III)I"⟩, 6) := ⟨⟨by decide +kernel, by decide +kernel⟩, List.mem_of_getElem? (i := 496) (by decide +kernel), List.mem_of_getElem? (i := 559) (by decide +kernel), List.mem_of_getElem? (i := 560) (by decide +kernel)⟩
theorem lw_p9 : lw_okq (⟨"ColdCreameryModel", "ch", "(II)I"⟩, 6) := ⟨⟨by decide +kernel, by decide +kernel⟩, List.mem_of_getElem? (i := 496) (by decide +kernel), List.mem_of_getElem? (i := 563) (by decide +kernel), List.mem_of_getElem? (i := 564) (by decide +kernel)⟩
theorem lw_p10 : lw_okq (⟨"ColdCreameryModel", "setChurn", "(III)V"⟩, 6) := ⟨⟨by decide +kernel, by decide +kernel⟩, List.mem_of_getElem? (i := 496) (by decide +kernel), List.mem_of_getElem? (i := 567) (by decide +kernel), List.mem_of_getElem? (i := 568) (by decide +kernel)⟩
theorem lw_p11 : lw_okq (⟨"ColdCreameryModel", "isTub", "(I)Z"⟩, 6) := ⟨⟨by decide +kernel, by decide +kernel⟩, List.mem_of_getElem? (i := 496) (by decide +kernel), List.mem_of_getElem? (i := 579) (by decide +kernel), List.mem_of_getElem? (i := 580) (by decide +kernel)⟩
theorem lw_p12 : lw_okq (⟨"ColdCreameryModel", "tu", "(II)I"⟩, 6) := ⟨⟨by decide +kernel, by decide +kernel⟩, List.mem_of_getElem? (i := 496) (by decide +kernel), List.mem_of_getElem? (i := 583) (by decide +kernel), List.mem_of_getElem? (i := 584) (by decide +kernel)⟩
theorem lw_p13 : lw_okq (⟨"ColdCreameryModel", "setTub", "(III)V"⟩, 6) := ⟨⟨by decide +kernel, by decide +kernel⟩, List.mem_of_getElem? (i := 496) (by decide +kernel), List.mem_of_getElem? (i := 587) (by decide +kernel), List.mem_of_getElem? (i := 588) (by decide +kernel)⟩
theorem lw_p14 : lw_okq (⟨"ColdCreameryModel", "counted", "(I)I"⟩, 6) := ⟨⟨by decide +kernel, by decide +kernel⟩, List.mem_of_getElem? (i := 496) (by decide +kernel), List.mem_of_getElem? (i := 604) (by decide +kernel), List.mem_of_getElem? (i := 605) (by decide +kernel)⟩
theorem lw_p15 : lw_okq (⟨"ColdCreameryModel", "heatNow", "()I"⟩, 6) := ⟨⟨by decide +kernel, by decide +kernel⟩, List.mem_of_getElem? (i := 496) (by decide +kernel), List.mem_of_getElem? (i := 608) (by decide +kernel), List.mem_of_getElem? (i := 609) (by decide +kernel)⟩
def lw_privs_1 : List (MethodName × Nat) := [(⟨"java/lang/Throwable", "fillInStackTrace", "(I)Ljava/lang/Throwable;"⟩, 6), (⟨"ColdCreamery", "existingChurn", "(I)LColdCreamery$Churn;"⟩, 2), (⟨"ColdCreamery", "existingTub", "(I)LColdCreamery$Tub;"⟩, 2), (⟨"ColdCreamery$Cellar", "runHour", "()V"⟩, 9), (⟨"ColdCreamery$Cellar", "servePeople", "(I)V"⟩, 9), (⟨"ColdCreamery$Cellar", "serveOne", "()V"⟩, 9), (⟨"ColdCreameryModel", "no", "(I)I"⟩, 6), (⟨"ColdCreameryModel", "isChurn", "(I)Z"⟩, 6), (⟨"ColdCreameryModel", "packed", "(III)I"⟩, 6), (⟨"ColdCreameryModel", "ch", "(II)I"⟩, 6), (⟨"ColdCreameryModel", "setChurn", "(III)V"⟩, 6), (⟨"ColdCreameryModel", "isTub", "(I)Z"⟩, 6), (⟨"ColdCreameryModel", "tu", "(II)I"⟩, 6), (⟨"ColdCreameryModel", "setTub", "(III)V"⟩, 6), (⟨"ColdCreameryModel", "counted", "(I)I"⟩, 6), (⟨"ColdCreameryModel", "heatNow", "()I"⟩, 6)]
theorem lw_r1 : ∀ q ∈ lw_privs_1, lw_okq q := List.forall_mem_cons.mpr ⟨lw_p0, List.forall_mem_cons.mpr ⟨lw_p1, List.forall_mem_cons.mpr ⟨lw_p2, List.forall_mem_cons.mpr ⟨lw_p3, List.forall_mem_cons.mpr ⟨lw_p4, List.forall_mem_cons.mpr ⟨lw_p5, List.forall_mem_cons.mpr ⟨lw_p6, List.forall_mem_cons.mpr ⟨lw_p7, List.forall_mem_cons.mpr ⟨lw_p8, List.forall_mem_cons.mpr ⟨lw_p9, List.forall_mem_cons.mpr ⟨lw_p10, List.forall_mem_cons.mpr ⟨lw_p11, List.forall_mem_cons.mpr ⟨lw_p12, List.forall_mem_cons.mpr ⟨lw_p13, List.forall_mem_cons.mpr ⟨lw_p14, List.forall_mem_cons.mpr ⟨lw_p15, fun _ h => absurd h List.not_mem_nil⟩⟩⟩⟩⟩⟩⟩⟩⟩⟩⟩⟩⟩⟩⟩⟩
theorem lw_p16 : lw_okq (⟨"ColdCreameryModel", "sum", "(I)I"⟩, 6) := ⟨⟨by decide +kernel, by decide +kernel⟩, List.mem_of_getElem? (i := 496) (by decide +kernel), List.mem_of_getElem? (i := 612) (by decide +kernel), List.mem_of_getElem? (i := 613) (by decide +kernel)⟩
theorem lw_p17 : lw_okq (⟨"ColdCreameryModel", "nextTub", "()I"⟩, 6) := ⟨⟨by decide +kernel, by decide +kernel⟩, List.mem_of_getElem? (i := 496) (by decide +kernel), List.mem_of_getElem? (i := 620) (by decide +kernel), List.mem_of_getElem? (i := 621) (by decide +kernel)⟩
theorem lw_p18 : lw_okq (⟨"ColdCreameryModel", "hourOn", "()V"⟩, 6) := ⟨⟨by decide +kernel, by decide +kernel⟩, List.mem_of_getElem? (i := 496) (by decide +kernel), List.mem_of_getElem? (i := 628) (by decide +kernel), List.mem_of_getElem? (i := 629) (by decide +kernel)⟩
theorem lw_p19 : lw_okq (⟨"ColdCreameryModel", "firmUp", "(II)V"⟩, 6) := ⟨⟨by decide +kernel, by decide +kernel⟩, List.mem_of_getElem? (i := 496) (by decide +kernel), List.mem_of_getElem? (i := 632) (by decide +kernel), List.mem_of_getElem? (i := 633) (by decide +kernel)⟩
theorem lw_p20 : lw_okq (⟨"ColdCreameryModel", "soften", "(II)V"⟩, 6) := ⟨⟨by decide +kernel, by decide +kernel⟩, List.mem_of_getElem? (i := 496) (by decide +kernel), List.mem_of_getElem? (i := 636) (by decide +kernel), List.mem_of_getElem? (i := 637) (by decide +kernel)⟩
theorem lw_p21 : lw_okq (⟨"ColdCreameryModel", "sell", "()V"⟩, 6) := ⟨⟨by decide +kernel, by decide +kernel⟩, List.mem_of_getElem? (i := 496) (by decide +kernel), List.mem_of_getElem? (i := 640) (by decide +kernel), List.mem_of_getElem? (i := 641) (by decide +kernel)⟩
theorem lw_p22 : lw_okq (⟨"ColdCreameryModel", "keep", "()V"⟩, 6) := ⟨⟨by decide +kernel, by decide +kernel⟩, List.mem_of_getElem? (i := 496) (by decide +kernel), List.mem_of_getElem? (i := 648) (by decide +kernel), List.mem_of_getElem? (i := 649) (by decide +kernel)⟩
theorem lw_p23 : lw_okq (⟨"ColdCreameryModel", "bringBack", "()V"⟩, 6) := ⟨⟨by decide +kernel, by decide +kernel⟩, List.mem_of_getElem? (i := 496) (by decide +kernel), List.mem_of_getElem? (i := 653) (by decide +kernel), List.mem_of_getElem? (i := 654) (by decide +kernel)⟩
def lw_privs_2 : List (MethodName × Nat) := [(⟨"ColdCreameryModel", "sum", "(I)I"⟩, 6), (⟨"ColdCreameryModel", "nextTub", "()I"⟩, 6), (⟨"ColdCreameryModel", "hourOn", "()V"⟩, 6), (⟨"ColdCreameryModel", "firmUp", "(II)V"⟩, 6), (⟨"ColdCreameryModel", "soften", "(II)V"⟩, 6), (⟨"ColdCreameryModel", "sell", "()V"⟩, 6), (⟨"ColdCreameryModel", "keep", "()V"⟩, 6), (⟨"ColdCreameryModel", "bringBack", "()V"⟩, 6)]
theorem lw_r2 : ∀ q ∈ lw_privs_2, lw_okq q := List.forall_mem_cons.mpr ⟨lw_p16, List.forall_mem_cons.mpr ⟨lw_p17, List.forall_mem_cons.mpr ⟨lw_p18, List.forall_mem_cons.mpr ⟨lw_p19, List.forall_mem_cons.mpr ⟨lw_p20, List.forall_mem_cons.mpr ⟨lw_p21, List.forall_mem_cons.mpr ⟨lw_p22, List.forall_mem_cons.mpr ⟨lw_p23, fun _ h => absurd h List.not_mem_nil⟩⟩⟩⟩⟩⟩⟩⟩
def lw_privs : List (MethodName × Nat) := lw_privs_1 ++ (lw_privs_2)
def lw_tbl : List Cond := k2_sels lw_privs ++ tables_1
theorem lw_privs_ok : ∀ q ∈ lw_privs, lw_okq q := by
  show ∀ q ∈ lw_privs_1 ++ (lw_privs_2), lw_okq q
  exact List.forall_mem_append.mpr ⟨lw_r1, lw_r2⟩
/-- the streams that the claim lets the run draw from -/
abbrev lw_cs : List Choice := [Jvm.Choice.named "NaN.bits"]
theorem lw_bits : nanBits ∈ lw_cs := by first | decide | exact List.mem_cons_self | simp [lw_cs, nanBits]
-- ===== end of PART A; then your names; then what follows =====
end
section
/-! ===== BEGIN words of one list among another's, by their places ===== -/
theorem goodIn_r {big : List Cond} (ws : List Cond) (ps : List Nat) (hp : ws = ps.filterMap (fun i => big[i]?)) (h : ws.all goodWord = true) : GoodIn big ws := by
  intro w hw
  have h1 := List.all_eq_true.mp h w hw
  rw [hp] at hw
  obtain ⟨i, -, hi⟩ := List.mem_filterMap.mp hw
  have hm : w ∈ big := by first | exact List.mem_of_getElem? hi | exact List.getElem?_mem hi
  exact ⟨hm, good_of_word h1⟩
theorem goodIn_app {big a b : List Cond} (ha : GoodIn big a) (hb : GoodIn big b) : GoodIn big (a ++ b) := fun w h => (List.mem_append.mp h).elim (ha w) (hb w)
theorem goodIn_ca {big a b : List Cond} {c : Cond} (ha : GoodIn big (c :: a)) (hb : GoodIn big b) : GoodIn big (c :: (a ++ b)) := fun w h => (List.mem_cons.mp h).elim (fun e => ha w (List.mem_cons.mpr (Or.inl e))) (fun h => (List.mem_append.mp h).elim (fun h => ha w (List.mem_cons.mpr (Or.inr h))) (hb w))
theorem goodIn_sub {big ws : List Cond} (hm : ∀ w ∈ ws, w ∈ big) (h : ws.all goodWord = true) : GoodIn big ws := fun w hw => ⟨hm w hw, good_of_word (List.all_eq_true.mp h w hw)⟩
/-! ===== END ===== -/

/-! ===== BEGIN exceptions that leave a method, and their catching by the caller (launches without stack traces) ===== -/
section VXA
/-! The laws vx_back, vx_callV, vx_callS, vx_callSW, vx_throw0, vx_throwS follow proofs of the library, with one case more: JvmDerived/Free/Laws.lean (Back.of_free), Shelf42/LK1.lean (callV, callS), Shelf/KitTraced.lean (throwNew0V, throwNewS). -/
/-- where a method has thrown q: the class by its name, the cell, what was written, the world -/
def vx_T (XC : String → State → State → Prop) (st : State) (q : Addr) (t : State) (mc ms : Nat) (free : Addr → Prop) : Prop :=
  ∃ (E : String) (ce : Cell) (L : List Loc), XC E st t ∧ t.heap[q]? = some ce ∧ ce.vm = .none ∧ st.vm.findClass E = some ce.cls ∧ st.WarmedH t.vm ∧ st.sameButNew ({ t with vm := st.vm } : State) L mc ms ∧ ∀ z ∈ L, free z.base
def vx_Q (Qc : Array Value → State → Outcome → State → Prop) (XC : String → State → State → Prop) (mc ms : Nat) (free : Addr → Prop) : Array Value → State → Outcome → State → Prop := fun a st o t =>
  (Qc a st o t ∧ ∃ L, FrameEnd st o t L mc ms ∧ ∀ q ∈ L, free q.base) ∨ ∃ q, o = .threw q ∧ vx_T XC st q t mc ms free
/-- a callee that returns or throws -/
def vx_Met (l : Launch) (y : MethodName) (ws : List Cond) (rm : Room) (Pc : Array Value → State → Prop) (Qc : Array Value → State → Outcome → State → Prop) (XC : String → State → State → Prop) (mc ms : Nat) (free : Addr → Prop) : Prop :=
  MetFree l y (headSpec ws rm) Pc (fun _ _ _ _ _ => True) (vx_Q Qc XC mc ms free)
def vx_Post (XC : String → State → State → Prop) (mc ms : Nat) (free : Addr → Prop) : Pt → Array Value → Addr → Pt → Prop := fun A a q B =>
  ∃ (g : JFrame) (mk : MethodId) (t : State) (L : List Loc) (E : String) (ce : Cell), B.U.heap = t.heap ∧ B.U.vm = t.vm ∧ XC E (A.U.calling g mk a) t ∧ t.heap[q]? = some ce ∧ ce.vm = .none ∧ A.U.vm.findClass E = some ce.cls ∧ B.locs = A.locs ++ L ∧ (∀ z ∈ L, free z.base) ∧ B.cells = A.cells + mc ∧ B.slots = A.slots + ms
def vx_Back (l : Launch) (R : Room) (p : Program) (e : Env) (below : List Frame) (s : State) (sargs : Array Value) (y : MethodName) (len W9 : Nat)
    (Pre : Pt → Array Value → Prop) (Post : Pt → Array Value → Option Value → Pt → Prop) (PostX : Pt → Array Value → Addr → Pt → Prop) : Prop :=
  ∀ (m : MethodId) (meth : Method) (c : Code) (A : Pt) (g : JFrame) (ig : Instr) (mk : MethodId) (a : Array Value),
    Stand p l e R s m sargs below meth c A.U A.locs A.cells A.slots → g.method = m → g.locals.size = c.maxLocals → decode c.code g.pc = .ok (ig, len) →
    2 * g.monitorRoom + (g.stack.map fun v => v.category).sum ≤ W9 → A.U.methodNamed? y = some mk → Pre A a →
    (∃ (v : Option Value) (B : Pt), Stand p l e R s m sargs below meth c B.U B.locs B.cells B.slots ∧ Post A a v B ∧
      Steps p.tables e below (doInvoke e (A.U.setTop g) [] mk a).1 (B.U.setTop { g with pc := g.pc + len, stack := v.toList ++ g.stack })) ∨
    (∃ (q : Addr) (B : Pt), Stand p l e R s m sargs below meth c B.U B.locs B.cells B.slots ∧ PostX A a q B ∧
      Steps p.tables e below (doInvoke e (A.U.setTop g) [] mk a).1 ((B.U.setTop g).pushFrame (.throwing q)))
section Payer
variable {l : Launch} {R : Room} {p : Program} {e : Env} {below : List Frame} {s : State} {sargs : Array Value} {y : MethodName} {len W9 : Nat}
theorem vx_back {ws : List Cond} {rm : Room} {Pc : Array Value → State → Prop} {Qc : Array Value → State → Outcome → State → Prop} {XC : String → State → State → Prop} {mc ms : Nat} {free : Addr → Prop} {bytes : ByteArray} {maxL : Nat} {ret : Option FieldType}
    (hM : vx_Met l y ws rm Pc Qc XC mc ms free) (hblind : FrameBlind Pc) (hrc : rm.cells = mc) (hrs : rm.slots = ms)
    (hframes : rm.frames + 1 ≤ R.frames) (hlocals : W9 + (maxL + 11) + rm.locals ≤ R.locals)
    (hws : ∀ w ∈ ws, ∀ a' U, s.WarmedH U.vm → w.before a' U = true) (hcode : Cond.code y bytes maxL ret ∈ ws) (hinit : ∀ a' U, s.WarmedH U.vm → (Cond.initialized y.cls).before a' U = true) :
    vx_Back l R p e below s sargs y len W9 (PreOf R mc ms Pc) (PostOf Qc mc ms free) (vx_Post XC mc ms free) := by
  intro m meth c A g ig mk a X hg hsize hdg hW hn hp
  have h1 : (headSpec ws rm).pre.before a A.U = true := atoms_intro fun w hw => hws w hw _ _ X.warmed
  have h2 : (Cond.code y bytes maxL ret).before a A.U = true := hws _ hcode _ _ X.warmed
  have h3 : (Cond.initialized y.cls).before a A.U = true := hinit _ _ X.warmed
  have h4 : A.cells + (headSpec ws rm).room.cells ≤ R.cells := by rw [show (headSpec ws rm).room.cells = mc from hrc]; exact hp.1
  have h5 : A.slots + (headSpec ws rm).room.slots ≤ R.slots := by rw [show (headSpec ws rm).room.slots = ms from hrs]; exact hp.2.1
  have hPc : Pc a (A.U.calling g mk a) := hblind _ _ _ _ hp.2.2
  obtain ⟨U, Ls, c0, s0⟩ := A
  dsimp only [Pt.U, Pt.locs, Pt.cells, Pt.slots] at h1 h2 h3 h4 h5 X hn hPc ⊢
  obtain ⟨methY, cY, hmY, hcY, -, hlY, -, -, -, -⟩ := Cond.code_spec hn h2
  obtain ⟨kY, hkY, -⟩ := className_of_methodNamed hn
  have hinitY : kY.init = .initialized := Cond.initialized_spec (findClass_of_methodNamed hn) hkY h3
  have h : At U g.method c below := by rw [hg]; exact X.here
  have hlocals9 : W9 + (maxL + 11) + (headSpec ws rm).room.locals ≤ R.locals := hlocals
  have happ : (headSpec ws rm).appliesLoose y e.platform (U.calling g mk a) = true :=
    Spec.appliesLoose_calling (g := g) h hdg hn hkY hinitY
      (X.room_calling (g := g) (R' := (headSpec ws rm).room) hsize hmY hcY hframes (by rw [hlY]; omega) h4 h5) h1
  obtain ⟨mid, hmid⟩ := h.above
  have hfr : (U.setTop g).frames = (.java g :: mid) ++ below := by rw [State.frames_setTop' g h.top, hmid]; rfl
  obtain ⟨o, s₂, hsteps, -, hend, hq⟩ := Steps.callFree hM p X.admits X.cas X.clock (acts := []) hfr happ hPc trivial
  have hq' : vx_Q Qc XC mc ms free a (U.calling g mk a) o s₂ := hq
  rw [State.frames_setTop' g h.top] at hend
  obtain ⟨g₀, hg0⟩ := Option.isSome_iff_exists.mp h.top
  obtain ⟨r, hr⟩ := State.topJava?_eq_some.mp hg0
  have hr' : (({ U with heap := s₂.heap, slotsUsed := s₂.slotsUsed } : State).setVm s₂.vm).frames = .java g₀ :: r := hr
  rcases hq' with ⟨hqc, L, hfe, hL⟩ | ⟨q, rfl, E, ce, L, hx, hce, hcv, hcl, hW₂, hsm, hL⟩
  · obtain ⟨⟨v, rfl⟩, hW₂, e2, q2, q3, q4, q5, q6⟩ := id hfe
    have e3 : s₂ = ({ (U.calling g mk a).setFrames s₂.frames with heap := s₂.heap, slotsUsed := s₂.slotsUsed } : State).setVm s₂.vm := by
      have : s₂ = ({ s₂ with vm := (U.calling g mk a).vm } : State).setVm s₂.vm := rfl
      rw [e2] at this
      exact this
    obtain ⟨c₂, i₂, len₂, hc₂, hd₂, hf₂⟩ := hend
    have hW' : U.WarmedH s₂.vm := hW₂
    have hcc : c₂ = c := by
      have h1 : s₂.code? g.method = U.code? g.method := by
        rw [State.code?_eq, State.code?_eq, hW'.alike.method?]
      exact Option.some.inj (hc₂.symm.trans (h1.trans h.code))
    subst hcc
    have hlen : len₂ = len := by rw [hdg] at hd₂; cases hd₂; rfl
    subst hlen
    have hs₂ : s₂ = (({ U with heap := s₂.heap, slotsUsed := s₂.slotsUsed } : State).setVm s₂.vm).setTop { g with pc := g.pc + len₂, stack := v.toList ++ g.stack } := by
      refine e3.trans ?_
      rw [hf₂, State.calling_eq h.top, State.setFrames_setFrames, State.setTop_of_frames _ hr', hr]
      rfl
    have hsame : U.sameButNew ({ U with heap := s₂.heap, slotsUsed := s₂.slotsUsed } : State) L mc ms := by
      refine ⟨?_, q2, q3, q4, q5, q6⟩
      obtain ⟨t, ht, -⟩ := State.frames_cons hr
      show ({ U with heap := s₂.heap, slotsUsed := s₂.slotsUsed } : State) = { U.setFrames U.frames with heap := s₂.heap, slotsUsed := s₂.slotsUsed }
      rw [State.setFrames_self ht]
    subst hg
    refine Or.inl ⟨v, ⟨(({ U with heap := s₂.heap, slotsUsed := s₂.slotsUsed } : State).setVm s₂.vm), Ls ++ L, c0 + mc, s0 + ms⟩,
      ⟨X.admits, X.cas, X.clock, X.frames, X.room, X.hears, X.method, X.code, (X.here.setHeapUsed s₂.heap s₂.slotsUsed).setVm hW'.alike, X.tail, State.WarmedH.trans X.warmed hW', X.limits, X.bytes, X.same.trans (hsame.setVm s.vm)⟩,
      ⟨g, mk, s₂, L, rfl, rfl, hqc, rfl, hL, rfl, rfl⟩, ?_⟩
    show Steps p.tables e below _ ((({ U with heap := s₂.heap, slotsUsed := s₂.slotsUsed } : State).setVm s₂.vm).setTop { g with pc := g.pc + len₂, stack := v.toList ++ g.stack })
    rw [← hs₂]
    exact hsteps
  · obtain ⟨e2, q2, q3, q4, q5, q6⟩ := id hsm
    have e3 : s₂ = ({ (U.calling g mk a).setFrames s₂.frames with heap := s₂.heap, slotsUsed := s₂.slotsUsed } : State).setVm s₂.vm := by
      have : s₂ = ({ s₂ with vm := (U.calling g mk a).vm } : State).setVm s₂.vm := rfl
      rw [e2] at this
      exact this
    have hf₂ : s₂.frames = .throwing q :: .java g :: U.frames.tail := hend
    have hW' : U.WarmedH s₂.vm := hW₂
    have hs₂ : s₂ = ((({ U with heap := s₂.heap, slotsUsed := s₂.slotsUsed } : State).setVm s₂.vm).setTop g).pushFrame (.throwing q) := by
      refine e3.trans ?_
      rw [hf₂, State.calling_eq h.top, State.setFrames_setFrames, State.pushFrame, State.frames_setTop _ hr', State.setTop_of_frames _ hr', State.setFrames_setFrames, hr]
      rfl
    have hsame : U.sameButNew ({ U with heap := s₂.heap, slotsUsed := s₂.slotsUsed } : State) L mc ms := by
      refine ⟨?_, q2, q3, q4, q5, q6⟩
      obtain ⟨t, ht, -⟩ := State.frames_cons hr
      show ({ U with heap := s₂.heap, slotsUsed := s₂.slotsUsed } : State) = { U.setFrames U.frames with heap := s₂.heap, slotsUsed := s₂.slotsUsed }
      rw [State.setFrames_self ht]
    subst hg
    refine Or.inr ⟨q, ⟨(({ U with heap := s₂.heap, slotsUsed := s₂.slotsUsed } : State).setVm s₂.vm), Ls ++ L, c0 + mc, s0 + ms⟩,
      ⟨X.admits, X.cas, X.clock, X.frames, X.room, X.hears, X.method, X.code, (X.here.setHeapUsed s₂.heap s₂.slotsUsed).setVm hW'.alike, X.tail, State.WarmedH.trans X.warmed hW', X.limits, X.bytes, X.same.trans (hsame.setVm s.vm)⟩,
      ⟨g, mk, s₂, L, E, ce, rfl, rfl, hx, hce, hcv, hcl, rfl, hL, rfl, rfl⟩, ?_⟩
    show Steps p.tables e below _ (((({ U with heap := s₂.heap, slotsUsed := s₂.slotsUsed } : State).setVm s₂.vm).setTop g).pushFrame (.throwing q))
    rw [← hs₂]
    exact hsteps
end Payer
section Calls
variable {p : Program} {l : Launch} {e : Env} {R : Room} {s : State} {m : MethodId} {args : Array Value} {below : List Frame} {meth : Method} {c : Code} {T : State} {locs : List Loc} {cells slots : Nat}
theorem vx_callV (X : Stand p l e R s m args below meth c T locs cells slots) (hexec : p.tables.exec = Jvm.exec) {own C : String} {index : Nat} {y : MethodName} {bytes : ByteArray} {maxL : Nat} {ret : Option FieldType}
    (hown : s.vm.findClass own = some m.cls) (hlink : (Cond.methodLink own index y).before args s = true) (hinst : (Cond.instanceMethod y).before args s = true) (hsel : (Cond.selects C y y).before args s = true)
    (hcode : (Cond.code y bytes maxL ret).before args s = true) (hy : y.cls ≠ "java/lang/invoke/MethodHandle" ∧ y.cls ≠ "java/lang/invoke/VarHandle")
    {W9 : Nat} {Pre : Pt → Array Value → Prop} {Post : Pt → Array Value → Option Value → Pt → Prop} {PostX : Pt → Array Value → Addr → Pt → Prop} (hK : vx_Back l R p e below s args y 3 W9 Pre Post PostX)
    {b : Addr} {cellB : Cell} (hcell : T.heap[b]? = some cellB) (hobj : cellB.vm.isStatics = false) (hcls : s.vm.findClass C = some cellB.cls)
    {g : JFrame} (hg : g.method = m) (hsize : g.locals.size = c.maxLocals) {argsL rest : List Value} (hlen : ∀ sig, parseMethodDescriptor y.desc = some sig → argsL.length = sig.parameters.length)
    (hstack : g.stack = argsL.reverse ++ .ref b :: rest) (hW : 2 * g.monitorRoom + (rest.map fun v => v.category).sum ≤ W9) (hdg : decode c.code g.pc = .ok (.invokevirtual index, 3))
    (hpre : ∀ vm₁, s.WarmedH vm₁ → Pre ⟨T.setVm vm₁, locs, cells, slots⟩ (Value.ref b :: argsL).toArray) :
    (∃ (v : Option Value) (vm₁ : Vm) (B : Pt), s.WarmedH vm₁ ∧ Stand p l e R s m args below meth c B.U B.locs B.cells B.slots ∧ Post ⟨T.setVm vm₁, locs, cells, slots⟩ (Value.ref b :: argsL).toArray v B ∧
      ∀ target, Steps p.tables e below (B.U.setTop { g with pc := g.pc + 3, stack := v.toList ++ rest }) target → Steps p.tables e below (T.setTop g) target) ∨
    (∃ (q : Addr) (vm₁ : Vm) (B : Pt), s.WarmedH vm₁ ∧ Stand p l e R s m args below meth c B.U B.locs B.cells B.slots ∧ PostX ⟨T.setVm vm₁, locs, cells, slots⟩ (Value.ref b :: argsL).toArray q B ∧
      Steps p.tables e below (T.setTop g) ((B.U.setTop { g with stack := rest }).pushFrame (.throwing q))) := by
  obtain ⟨mk, methM, hnamed, hmethM, hstM, habM⟩ := Cond.instanceMethod_spec hinst
  obtain ⟨methM', cM, hmethM', -, -, -, -, -, -, hsigM⟩ := Cond.code_spec hnamed hcode
  cases hmethM.symm.trans hmethM'
  obtain ⟨c2, r2, m2, q1, q2, q3, q4, kP, hkP, hkPi⟩ := Cond.selects_spec hsel
  cases hcls.symm.trans q1
  cases (State.methodFound?_of_named hnamed hy).symm.trans q2
  cases hnamed.symm.trans q3
  have hselP : selectMethod e.platform s.vm cellB.cls mk = .method mk := by rw [Launch.admits_selectMethod X.admits]; exact q4
  obtain ⟨vm₁, X₁, hstep₁⟩ := X.invokevirtual hexec hown hlink hnamed hmethM hstM hkP hkPi hy (a := b) (cell := cellB) hcell
    (fun z h => by rw [h] at hobj; cases hobj) hselP hmethM habM hkP hkPi (g := g) hg (argsL := argsL) (rest := rest) (hlen _ hsigM) hstack hdg
  rcases hK m meth c ⟨T.setVm vm₁, locs, cells, slots⟩ { g with stack := rest } (.invokevirtual index) mk (Value.ref b :: argsL).toArray X₁ hg hsize hdg hW (X₁.named hnamed) (hpre vm₁ X₁.warmed) with ⟨v, B, X', hpost, hsteps⟩ | ⟨q, B, X', hpost, hsteps⟩
  · exact Or.inl ⟨v, vm₁, B, X₁.warmed, X', hpost, fun target h => hstep₁ _ fun acts => by rw [doInvoke_state]; exact hsteps.trans h⟩
  · exact Or.inr ⟨q, vm₁, B, X₁.warmed, X', hpost, hstep₁ _ fun acts => by rw [doInvoke_state]; exact hsteps⟩
theorem vx_callS (X : Stand p l e R s m args below meth c T locs cells slots) (hexec : p.tables.exec = Jvm.exec) {own : String} {index : Nat} {y : MethodName} {bytes : ByteArray} {maxL : Nat} {ret : Option FieldType}
    (hown : s.vm.findClass own = some m.cls) (hlink : (Cond.methodLink own index y).before args s = true) (hstat : (Cond.static y).before args s = true) (hinit : (Cond.initialized y.cls).before args s = true)
    (hcode : (Cond.code y bytes maxL ret).before args s = true) (hy : y.cls ≠ "java/lang/invoke/MethodHandle" ∧ y.cls ≠ "java/lang/invoke/VarHandle")
    {W9 : Nat} {Pre : Pt → Array Value → Prop} {Post : Pt → Array Value → Option Value → Pt → Prop} {PostX : Pt → Array Value → Addr → Pt → Prop} (hK : vx_Back l R p e below s args y 3 W9 Pre Post PostX)
    {g : JFrame} (hg : g.method = m) (hsize : g.locals.size = c.maxLocals) {argsL rest : List Value} (hlen : ∀ sig, parseMethodDescriptor y.desc = some sig → argsL.length = sig.parameters.length)
    (hstack : g.stack = argsL.reverse ++ rest) (hW : 2 * g.monitorRoom + (rest.map fun v => v.category).sum ≤ W9) (hdg : decode c.code g.pc = .ok (.invokestatic index, 3))
    (hpre : ∀ vm₁, s.WarmedH vm₁ → Pre ⟨T.setVm vm₁, locs, cells, slots⟩ argsL.toArray) :
    (∃ (v : Option Value) (vm₁ : Vm) (B : Pt), s.WarmedH vm₁ ∧ Stand p l e R s m args below meth c B.U B.locs B.cells B.slots ∧ Post ⟨T.setVm vm₁, locs, cells, slots⟩ argsL.toArray v B ∧
      ∀ target, Steps p.tables e below (B.U.setTop { g with pc := g.pc + 3, stack := v.toList ++ rest }) target → Steps p.tables e below (T.setTop g) target) ∨
    (∃ (q : Addr) (vm₁ : Vm) (B : Pt), s.WarmedH vm₁ ∧ Stand p l e R s m args below meth c B.U B.locs B.cells B.slots ∧ PostX ⟨T.setVm vm₁, locs, cells, slots⟩ argsL.toArray q B ∧
      Steps p.tables e below (T.setTop g) ((B.U.setTop { g with stack := rest }).pushFrame (.throwing q))) := by
  obtain ⟨mk, hnamed⟩ := Cond.code_named hcode
  obtain ⟨methM, cM, hmethM, -, -, -, -, -, -, hsigM⟩ := Cond.code_spec hnamed hcode
  have hstatic : methM.isStatic = true := Cond.static_spec hnamed hmethM hstat
  obtain ⟨kP, hkP, -⟩ := className_of_methodNamed hnamed
  have hinitP : kP.init = .initialized := Cond.initialized_spec (findClass_of_methodNamed hnamed) hkP hinit
  obtain ⟨vm₁, X₁, hstep₁⟩ := X.invokestatic hexec hown hlink hnamed hmethM hstatic hkP hinitP hy (g := g) hg (argsL := argsL) (rest := rest) (hlen _ hsigM) hstack hdg
  rcases hK m meth c ⟨T.setVm vm₁, locs, cells, slots⟩ { g with stack := rest } (.invokestatic index) mk argsL.toArray X₁ hg hsize hdg hW (X₁.named hnamed) (hpre vm₁ X₁.warmed) with ⟨v, B, X', hpost, hsteps⟩ | ⟨q, B, X', hpost, hsteps⟩
  · exact Or.inl ⟨v, vm₁, B, X₁.warmed, X', hpost, fun target h => hstep₁ _ fun acts => by rw [doInvoke_state]; exact hsteps.trans h⟩
  · exact Or.inr ⟨q, vm₁, B, X₁.warmed, X', hpost, hstep₁ _ fun acts => by rw [doInvoke_state]; exact hsteps⟩
end Calls
theorem vx_cls {s : State} {T : State} {vm₁ : Vm} {E : String} {k : ClassId} (hW : s.WarmedH vm₁) (h : (T.setVm vm₁).vm.findClass E = some k) : s.vm.findClass E = some k := by
  have h1 : vm₁.findClass E = some k := h
  rw [hW.alike.findClass] at h1
  exact h1
/-- the method's frame g, with q thrown over it -/
def vx_W (p : Program) (l : Launch) (e : Env) (R : Room) (s : State) (m : MethodId) (args : Array Value) (below : List Frame) (meth : Method) (c : Code) (H : Heap) (locs : List Loc) (cells slots : Nat) (Q : State → Prop) (g : JFrame) (q : Addr) : Prop :=
  ∀ T : State, T.heap = H → Stand p l e R s m args below meth c T locs cells slots → ∃ t, Steps p.tables e below ((T.setTop g).pushFrame (.throwing q)) t ∧ Q t
def vx_Run (p : Program) (l : Launch) (e : Env) (R : Room) (s : State) (m : MethodId) (args : Array Value) (below : List Frame) (meth : Method) (c : Code) (H : Heap) (locs : List Loc) (cells slots mc ms : Nat) (g : JFrame) (rest : List Value) (Qa : State → Outcome → State → Prop) (XC : String → State → State → Prop) (free : Addr → Prop) : Prop :=
  ∀ T : State, T.heap = H → Stand p l e R s m args below meth c T locs cells slots →
    (∃ (v : Option Value) (st₀ t T' : State) (L : List Loc), st₀.heap = H ∧ Stand p l e R s m args below meth c T' (locs ++ L) (cells + mc) (slots + ms) ∧ (∀ q ∈ L, free q.base) ∧ T'.heap = t.heap ∧ T'.vm = t.vm ∧ Qa st₀ (.returned v) t ∧
      Goes p e below T g T' { g with pc := g.pc + 3, stack := v.toList ++ rest }) ∨
    (∃ (q : Addr) (st₀ t T' : State) (L : List Loc) (E : String) (ce : Cell), st₀.heap = H ∧ Stand p l e R s m args below meth c T' (locs ++ L) (cells + mc) (slots + ms) ∧ (∀ z ∈ L, free z.base) ∧ T'.heap = t.heap ∧ T'.vm = t.vm ∧ XC E st₀ t ∧ t.heap[q]? = some ce ∧ ce.vm = .none ∧ s.vm.findClass E = some ce.cls ∧
      Steps p.tables e below (T.setTop g) ((T'.setTop { g with stack := rest }).pushFrame (.throwing q)))
def vx_X {S : Type} (px : S → Prop) (B : String → S → State → Prop) (A : Nat → Prop) : String → State → State → Prop := fun E st t => ∃ u : S, px u ∧ B E u t ∧ va_F A st t
section Runs
variable {p : Program} {l : Launch} {e : Env} {R : Room} {s : State} {m : MethodId} {args : Array Value} {below : List Frame} {meth : Method} {c : Code} {H : Heap} {locs : List Loc} {cells slots : Nat}
variable {y : MethodName} {bytes cc : ByteArray} {maxL nL mc ms n index : Nat} {ret : Option FieldType} {ws : List Cond} {rm : Room} {Pc : Array Value → State → Prop} {Qc : Array Value → State → Outcome → State → Prop} {XC : String → State → State → Prop} {free : Addr → Prop} {Ts : List Cond} {own C : String} {b : Addr} {As rest : List Value} {g : JFrame}
theorem vx_callBack (cb : CallB R s args own index y bytes maxL ret ws rm mc ms n) (hM : vx_Met l y ws rm Pc Qc XC mc ms free) (hbl : FrameBlind Pc) : vx_Back l R p e below s args y 3 8 (PreOf R mc ms Pc) (PostOf Qc mc ms free) (vx_Post XC mc ms free) := by
  obtain ⟨hrc, hrs, hfr, hlo, hws, hcw, -, hini, -⟩ := cb
  exact vx_back (bytes := bytes) (maxL := maxL) (ret := ret) hM hbl hrc hrs hfr hlo hws hcw (fun a' U hW => word_at hW (Or.inl (by first | rfl | simp [Cond.onTables, Cond.keeps, Cond.steady])) hini)
theorem vx_runV (S : CallFix p m c cc nL s args Ts own) (hM : vx_Met l y ws rm Pc Qc XC mc ms free) (cw : CallW R s args own C index y bytes maxL ret ws rm mc ms n) (hp : PreV s H C b Pc As)
    (hg : g.method = m) (hn : As.length = n) (hsize : g.locals.size = nL) (hstack : g.stack = As.reverse ++ .ref b :: rest) (hW : 2 * g.monitorRoom + (rest.map fun v => v.category).sum ≤ 8) (hdg : decode cc g.pc = .ok (.invokevirtual index, 3)) (hf : cells + mc ≤ R.cells ∧ slots + ms ≤ R.slots) :
    vx_Run p l e R s m args below meth c H locs cells slots mc ms g rest (Qc (Value.ref b :: As).toArray) XC free := by
  have hK : vx_Back l R p e below s args y 3 8 (PreOf R mc ms Pc) (PostOf Qc mc ms free) (vx_Post XC mc ms free) := vx_callBack cw.1 hM hp.1
  obtain ⟨⟨-, -, -, -, -, -, hcode, -, hy, hlen, hl⟩, hin, hse⟩ := cw
  obtain ⟨hx, hb, hml, ho, -⟩ := S
  obtain ⟨-, ⟨cellB, hcB, hoB, hclB⟩, hPc⟩ := hp
  intro T hT X
  rcases vx_callV X hx (C := C) (bytes := bytes) (maxL := maxL) (ret := ret) ho hl hin hse hcode hy hK (by rw [hT]; exact hcB) hoB hclB hg (hsize.trans hml.symm) (argsL := As) (rest := rest) (fun sig h => hn.trans (hlen sig h)) hstack hW (by rw [hb]; exact hdg)
    (fun vm₁ hW₁ => ⟨hf.1, hf.2, hPc (T.setVm vm₁) hT hW₁⟩) with ⟨v, vm₁, ⟨U', l2, c2, s2⟩, hW₁, X', ⟨g', mk, t, L, e1, e2, hq, h1, hL, h2, h3⟩, st⟩ | ⟨q, vm₁, ⟨U', l2, c2, s2⟩, hW₁, X', ⟨g', mk, t, L, E, ce, e1, e2, hq, hce, hcv, hcl, h1, hL, h2, h3⟩, st⟩
  · dsimp only [Pt.U, Pt.locs, Pt.cells, Pt.slots] at X' e1 e2 h1 h2 h3 st
    subst h1; subst h2; subst h3
    exact Or.inl ⟨v, (T.setVm vm₁).calling g' mk (Value.ref b :: As).toArray, t, U', L, hT, X', hL, e1, e2, hq, st⟩
  · dsimp only [Pt.U, Pt.locs, Pt.cells, Pt.slots] at X' e1 e2 h1 h2 h3 st hcl
    subst h1; subst h2; subst h3
    exact Or.inr ⟨q, (T.setVm vm₁).calling g' mk (Value.ref b :: As).toArray, t, U', L, E, ce, hT, X', hL, e1, e2, hq, hce, hcv, vx_cls hW₁ hcl, st⟩
theorem vx_runS (S : CallFix p m c cc nL s args Ts own) (hM : vx_Met l y ws rm Pc Qc XC mc ms free) (cw : CallB R s args own index y bytes maxL ret ws rm mc ms n ∧ (Cond.static y).before args s = true) (hp : PreS s H Pc As)
    (hg : g.method = m) (hn : As.length = n) (hsize : g.locals.size = nL) (hstack : g.stack = As.reverse ++ rest) (hW : 2 * g.monitorRoom + (rest.map fun v => v.category).sum ≤ 8) (hdg : decode cc g.pc = .ok (.invokestatic index, 3)) (hf : cells + mc ≤ R.cells ∧ slots + ms ≤ R.slots) :
    vx_Run p l e R s m args below meth c H locs cells slots mc ms g rest (Qc As.toArray) XC free := by
  have hK : vx_Back l R p e below s args y 3 8 (PreOf R mc ms Pc) (PostOf Qc mc ms free) (vx_Post XC mc ms free) := vx_callBack cw.1 hM hp.1
  obtain ⟨⟨-, -, -, -, -, -, hcode, hini, hy, hlen, hl⟩, hstt⟩ := cw
  obtain ⟨hx, hb, hml, ho, -⟩ := S
  intro T hT X
  rcases vx_callS X hx (bytes := bytes) (maxL := maxL) (ret := ret) ho hl hstt hini hcode hy hK hg (hsize.trans hml.symm) (argsL := As) (rest := rest) (fun sig h => hn.trans (hlen sig h)) hstack hW (by rw [hb]; exact hdg)
    (fun vm₁ hW₁ => ⟨hf.1, hf.2, hp.2 (T.setVm vm₁) hT hW₁⟩) with ⟨v, vm₁, ⟨U', l2, c2, s2⟩, hW₁, X', ⟨g', mk, t, L, e1, e2, hq, h1, hL, h2, h3⟩, st⟩ | ⟨q, vm₁, ⟨U', l2, c2, s2⟩, hW₁, X', ⟨g', mk, t, L, E, ce, e1, e2, hq, hce, hcv, hcl, h1, hL, h2, h3⟩, st⟩
  · dsimp only [Pt.U, Pt.locs, Pt.cells, Pt.slots] at X' e1 e2 h1 h2 h3 st
    subst h1; subst h2; subst h3
    exact Or.inl ⟨v, (T.setVm vm₁).calling g' mk As.toArray, t, U', L, hT, X', hL, e1, e2, hq, st⟩
  · dsimp only [Pt.U, Pt.locs, Pt.cells, Pt.slots] at X' e1 e2 h1 h2 h3 st hcl
    subst h1; subst h2; subst h3
    exact Or.inr ⟨q, (T.setVm vm₁).calling g' mk As.toArray, t, U', L, E, ce, hT, X', hL, e1, e2, hq, hce, hcv, vx_cls hW₁ hcl, st⟩
end Runs
section Rows
variable {p : Program} {l : Launch} {e : Env} {R : Room} {s : State} {m : MethodId} {args : Array Value} {below : List Frame} {meth : Method} {c : Code} {H : Heap} {locs : List Loc} {cells slots : Nat} {Q : State → Prop}
variable {mc ms : Nat} {free : Addr → Prop} {A0 A1 : Nat → Prop} {H0 : Heap} {a : Array Value} {pc : Nat} {ls : Array Slot} {st0 rest : List Value}
theorem vx_keep {st₀ t T' : State} {L : List Loc} (h0 : st₀.heap = H) (e1 : T'.heap = t.heap) (hS : va_S A0 H0 H locs) (hA : ∀ q, q < H.size → A1 q → A0 q) (hf : ∀ q, free q → A0 q) (hL : ∀ q ∈ L, free q.base) (hF : va_F A1 st₀ t) :
    H.size ≤ T'.heap.size ∧ (∀ q : Nat, q < H.size → ¬ A1 q → T'.heap[q]? = H[q]?) ∧ va_S A0 H0 T'.heap (locs ++ L) := by
  obtain ⟨hz, hk⟩ := hF
  rw [h0] at hz hk
  exact ⟨by rw [e1]; exact hz, fun q h1 h2 => by rw [e1]; exact hk q h1 h2,
    ⟨Nat.le_trans hS.1 (by rw [e1]; exact hz), fun q h1 h2 => by rw [e1, hk q (Nat.lt_of_lt_of_le h1 hS.1) (fun z => h2 (hA q (Nat.lt_of_lt_of_le h1 hS.1) z))]; exact hS.2.1 q h1 h2, fun q hq => by
      rcases List.mem_append.mp hq with h | h
      · exact hS.2.2 q h
      · exact hf _ (hL q h)⟩⟩
theorem vx_calli {S SX : Type} {post : Int32 → S → Prop} {px : SX → Prop} {B : S → State → Prop} {BX : String → SX → State → Prop} {AX : Nat → Prop} (hr : vx_Run p l e R s m args below meth c H locs cells slots mc ms (F0 m pc ls st0) rest (va_Qi post B A1 a) (vx_X px BX AX) free) (hS : va_S A0 H0 H locs) (hA : ∀ q, q < H.size → A1 q → A0 q) (hf : ∀ q, free q → A0 q) (hAX : ∀ q, q < H.size → AX q → A0 q)
    (kx : ∀ (E : String) (ce : Cell) (q9 : Addr) (u : SX) (t : State) (H1 : Heap) (locs1 : List Loc), t.heap = H1 → s.vm.Alike t.vm → px u → BX E u t → H.size ≤ H1.size → (∀ q : Nat, q < H.size → ¬ AX q → H1[q]? = H[q]?) → va_S A0 H0 H1 locs1 → H1[q9]? = some ce → ce.vm = .none → s.vm.findClass E = some ce.cls → vx_W p l e R s m args below meth c H1 locs1 (cells + mc) (slots + ms) Q (F0 m pc ls rest) q9)
    (kk : ∀ (r : Int32) (u : S) (t : State) (H1 : Heap) (locs1 : List Loc), t.heap = H1 → s.vm.Alike t.vm → post r u → B u t → H.size ≤ H1.size → (∀ q : Nat, q < H.size → ¬ A1 q → H1[q]? = H[q]?) → va_S A0 H0 H1 locs1 → W p l e R s m args below meth c H1 locs1 (cells + mc) (slots + ms) Q (F0 m (pc + 3) ls (.int r :: rest))) : W p l e R s m args below meth c H locs cells slots Q (F0 m pc ls st0) := by
  intro T hT X
  rcases hr T hT X with ⟨v, st₀, t, T', L, h0, X', hL, e1, e2, ⟨⟨r, u, hv, hp, hb⟩, hF⟩, st⟩ | ⟨q, st₀, t, T', L, E, ce, h0, X', hL, e1, e2, ⟨u, hp, hb, hF⟩, hce, hcv, hcl, st⟩
  · cases hv
    obtain ⟨k1, k2, k3⟩ := vx_keep h0 e1 hS hA hf hL hF
    obtain ⟨t2, a1, b1⟩ := kk r u t T'.heap (locs ++ L) e1.symm (by rw [← e2]; exact X'.warmed.alike) hp hb k1 k2 k3 T' rfl X'
    exact ⟨t2, st t2 a1, b1⟩
  · obtain ⟨k1, k2, k3⟩ := vx_keep h0 e1 hS hAX hf hL hF
    obtain ⟨t2, a1, b1⟩ := kx E ce q u t T'.heap (locs ++ L) e1.symm (by rw [← e2]; exact X'.warmed.alike) hp hb k1 k2 k3 (by rw [e1]; exact hce) hcv hcl T' rfl X'
    exact ⟨t2, st.trans a1, b1⟩
theorem vx_calll {S SX : Type} {post : Int64 → S → Prop} {px : SX → Prop} {B : S → State → Prop} {BX : String → SX → State → Prop} {AX : Nat → Prop} (hr : vx_Run p l e R s m args below meth c H locs cells slots mc ms (F0 m pc ls st0) rest (va_Ql post B A1 a) (vx_X px BX AX) free) (hS : va_S A0 H0 H locs) (hA : ∀ q, q < H.size → A1 q → A0 q) (hf : ∀ q, free q → A0 q) (hAX : ∀ q, q < H.size → AX q → A0 q)
    (kx : ∀ (E : String) (ce : Cell) (q9 : Addr) (u : SX) (t : State) (H1 : Heap) (locs1 : List Loc), t.heap = H1 → s.vm.Alike t.vm → px u → BX E u t → H.size ≤ H1.size → (∀ q : Nat, q < H.size → ¬ AX q → H1[q]? = H[q]?) → va_S A0 H0 H1 locs1 → H1[q9]? = some ce → ce.vm = .none → s.vm.findClass E = some ce.cls → vx_W p l e R s m args below meth c H1 locs1 (cells + mc) (slots + ms) Q (F0 m pc ls rest) q9)
    (kk : ∀ (r : Int64) (u : S) (t : State) (H1 : Heap) (locs1 : List Loc), t.heap = H1 → s.vm.Alike t.vm → post r u → B u t → H.size ≤ H1.size → (∀ q : Nat, q < H.size → ¬ A1 q → H1[q]? = H[q]?) → va_S A0 H0 H1 locs1 → W p l e R s m args below meth c H1 locs1 (cells + mc) (slots + ms) Q (F0 m (pc + 3) ls (.long r :: rest))) : W p l e R s m args below meth c H locs cells slots Q (F0 m pc ls st0) := by
  intro T hT X
  rcases hr T hT X with ⟨v, st₀, t, T', L, h0, X', hL, e1, e2, ⟨⟨r, u, hv, hp, hb⟩, hF⟩, st⟩ | ⟨q, st₀, t, T', L, E, ce, h0, X', hL, e1, e2, ⟨u, hp, hb, hF⟩, hce, hcv, hcl, st⟩
  · cases hv
    obtain ⟨k1, k2, k3⟩ := vx_keep h0 e1 hS hA hf hL hF
    obtain ⟨t2, a1, b1⟩ := kk r u t T'.heap (locs ++ L) e1.symm (by rw [← e2]; exact X'.warmed.alike) hp hb k1 k2 k3 T' rfl X'
    exact ⟨t2, st t2 a1, b1⟩
  · obtain ⟨k1, k2, k3⟩ := vx_keep h0 e1 hS hAX hf hL hF
    obtain ⟨t2, a1, b1⟩ := kx E ce q u t T'.heap (locs ++ L) e1.symm (by rw [← e2]; exact X'.warmed.alike) hp hb k1 k2 k3 (by rw [e1]; exact hce) hcv hcl T' rfl X'
    exact ⟨t2, st.trans a1, b1⟩
theorem vx_callf {S SX : Type} {post : UInt32 → S → Prop} {px : SX → Prop} {B : S → State → Prop} {BX : String → SX → State → Prop} {AX : Nat → Prop} (hr : vx_Run p l e R s m args below meth c H locs cells slots mc ms (F0 m pc ls st0) rest (va_Qf post B A1 a) (vx_X px BX AX) free) (hS : va_S A0 H0 H locs) (hA : ∀ q, q < H.size → A1 q → A0 q) (hf : ∀ q, free q → A0 q) (hAX : ∀ q, q < H.size → AX q → A0 q)
    (kx : ∀ (E : String) (ce : Cell) (q9 : Addr) (u : SX) (t : State) (H1 : Heap) (locs1 : List Loc), t.heap = H1 → s.vm.Alike t.vm → px u → BX E u t → H.size ≤ H1.size → (∀ q : Nat, q < H.size → ¬ AX q → H1[q]? = H[q]?) → va_S A0 H0 H1 locs1 → H1[q9]? = some ce → ce.vm = .none → s.vm.findClass E = some ce.cls → vx_W p l e R s m args below meth c H1 locs1 (cells + mc) (slots + ms) Q (F0 m pc ls rest) q9)
    (kk : ∀ (r : UInt32) (u : S) (t : State) (H1 : Heap) (locs1 : List Loc), t.heap = H1 → s.vm.Alike t.vm → post r u → B u t → H.size ≤ H1.size → (∀ q : Nat, q < H.size → ¬ A1 q → H1[q]? = H[q]?) → va_S A0 H0 H1 locs1 → W p l e R s m args below meth c H1 locs1 (cells + mc) (slots + ms) Q (F0 m (pc + 3) ls (.float r :: rest))) : W p l e R s m args below meth c H locs cells slots Q (F0 m pc ls st0) := by
  intro T hT X
  rcases hr T hT X with ⟨v, st₀, t, T', L, h0, X', hL, e1, e2, ⟨⟨r, u, hv, hp, hb⟩, hF⟩, st⟩ | ⟨q, st₀, t, T', L, E, ce, h0, X', hL, e1, e2, ⟨u, hp, hb, hF⟩, hce, hcv, hcl, st⟩
  · cases hv
    obtain ⟨k1, k2, k3⟩ := vx_keep h0 e1 hS hA hf hL hF
    obtain ⟨t2, a1, b1⟩ := kk r u t T'.heap (locs ++ L) e1.symm (by rw [← e2]; exact X'.warmed.alike) hp hb k1 k2 k3 T' rfl X'
    exact ⟨t2, st t2 a1, b1⟩
  · obtain ⟨k1, k2, k3⟩ := vx_keep h0 e1 hS hAX hf hL hF
    obtain ⟨t2, a1, b1⟩ := kx E ce q u t T'.heap (locs ++ L) e1.symm (by rw [← e2]; exact X'.warmed.alike) hp hb k1 k2 k3 (by rw [e1]; exact hce) hcv hcl T' rfl X'
    exact ⟨t2, st.trans a1, b1⟩
theorem vx_calld {S SX : Type} {post : UInt64 → S → Prop} {px : SX → Prop} {B : S → State → Prop} {BX : String → SX → State → Prop} {AX : Nat → Prop} (hr : vx_Run p l e R s m args below meth c H locs cells slots mc ms (F0 m pc ls st0) rest (va_Qd post B A1 a) (vx_X px BX AX) free) (hS : va_S A0 H0 H locs) (hA : ∀ q, q < H.size → A1 q → A0 q) (hf : ∀ q, free q → A0 q) (hAX : ∀ q, q < H.size → AX q → A0 q)
    (kx : ∀ (E : String) (ce : Cell) (q9 : Addr) (u : SX) (t : State) (H1 : Heap) (locs1 : List Loc), t.heap = H1 → s.vm.Alike t.vm → px u → BX E u t → H.size ≤ H1.size → (∀ q : Nat, q < H.size → ¬ AX q → H1[q]? = H[q]?) → va_S A0 H0 H1 locs1 → H1[q9]? = some ce → ce.vm = .none → s.vm.findClass E = some ce.cls → vx_W p l e R s m args below meth c H1 locs1 (cells + mc) (slots + ms) Q (F0 m pc ls rest) q9)
    (kk : ∀ (r : UInt64) (u : S) (t : State) (H1 : Heap) (locs1 : List Loc), t.heap = H1 → s.vm.Alike t.vm → post r u → B u t → H.size ≤ H1.size → (∀ q : Nat, q < H.size → ¬ A1 q → H1[q]? = H[q]?) → va_S A0 H0 H1 locs1 → W p l e R s m args below meth c H1 locs1 (cells + mc) (slots + ms) Q (F0 m (pc + 3) ls (.double r :: rest))) : W p l e R s m args below meth c H locs cells slots Q (F0 m pc ls st0) := by
  intro T hT X
  rcases hr T hT X with ⟨v, st₀, t, T', L, h0, X', hL, e1, e2, ⟨⟨r, u, hv, hp, hb⟩, hF⟩, st⟩ | ⟨q, st₀, t, T', L, E, ce, h0, X', hL, e1, e2, ⟨u, hp, hb, hF⟩, hce, hcv, hcl, st⟩
  · cases hv
    obtain ⟨k1, k2, k3⟩ := vx_keep h0 e1 hS hA hf hL hF
    obtain ⟨t2, a1, b1⟩ := kk r u t T'.heap (locs ++ L) e1.symm (by rw [← e2]; exact X'.warmed.alike) hp hb k1 k2 k3 T' rfl X'
    exact ⟨t2, st t2 a1, b1⟩
  · obtain ⟨k1, k2, k3⟩ := vx_keep h0 e1 hS hAX hf hL hF
    obtain ⟨t2, a1, b1⟩ := kx E ce q u t T'.heap (locs ++ L) e1.symm (by rw [← e2]; exact X'.warmed.alike) hp hb k1 k2 k3 (by rw [e1]; exact hce) hcv hcl T' rfl X'
    exact ⟨t2, st.trans a1, b1⟩
theorem vx_callv {S SX : Type} {post : S → Prop} {px : SX → Prop} {B : S → State → Prop} {BX : String → SX → State → Prop} {AX : Nat → Prop} (hr : vx_Run p l e R s m args below meth c H locs cells slots mc ms (F0 m pc ls st0) rest (va_Qv post B A1 a) (vx_X px BX AX) free) (hS : va_S A0 H0 H locs) (hA : ∀ q, q < H.size → A1 q → A0 q) (hf : ∀ q, free q → A0 q) (hAX : ∀ q, q < H.size → AX q → A0 q)
    (kx : ∀ (E : String) (ce : Cell) (q9 : Addr) (u : SX) (t : State) (H1 : Heap) (locs1 : List Loc), t.heap = H1 → s.vm.Alike t.vm → px u → BX E u t → H.size ≤ H1.size → (∀ q : Nat, q < H.size → ¬ AX q → H1[q]? = H[q]?) → va_S A0 H0 H1 locs1 → H1[q9]? = some ce → ce.vm = .none → s.vm.findClass E = some ce.cls → vx_W p l e R s m args below meth c H1 locs1 (cells + mc) (slots + ms) Q (F0 m pc ls rest) q9)
    (kk : ∀ (u : S) (t : State) (H1 : Heap) (locs1 : List Loc), t.heap = H1 → s.vm.Alike t.vm → post u → B u t → H.size ≤ H1.size → (∀ q : Nat, q < H.size → ¬ A1 q → H1[q]? = H[q]?) → va_S A0 H0 H1 locs1 → W p l e R s m args below meth c H1 locs1 (cells + mc) (slots + ms) Q (F0 m (pc + 3) ls (rest))) : W p l e R s m args below meth c H locs cells slots Q (F0 m pc ls st0) := by
  intro T hT X
  rcases hr T hT X with ⟨v, st₀, t, T', L, h0, X', hL, e1, e2, ⟨⟨u, hv, hp, hb⟩, hF⟩, st⟩ | ⟨q, st₀, t, T', L, E, ce, h0, X', hL, e1, e2, ⟨u, hp, hb, hF⟩, hce, hcv, hcl, st⟩
  · cases hv
    obtain ⟨k1, k2, k3⟩ := vx_keep h0 e1 hS hA hf hL hF
    obtain ⟨t2, a1, b1⟩ := kk u t T'.heap (locs ++ L) e1.symm (by rw [← e2]; exact X'.warmed.alike) hp hb k1 k2 k3 T' rfl X'
    exact ⟨t2, st t2 a1, b1⟩
  · obtain ⟨k1, k2, k3⟩ := vx_keep h0 e1 hS hAX hf hL hF
    obtain ⟨t2, a1, b1⟩ := kx E ce q u t T'.heap (locs ++ L) e1.symm (by rw [← e2]; exact X'.warmed.alike) hp hb k1 k2 k3 (by rw [e1]; exact hce) hcv hcl T' rfl X'
    exact ⟨t2, st.trans a1, b1⟩
/-- caught by the row x of this method's table; the rows ahead don't take it -/
theorem vx_catch {own name : String} {E : String} {ce : Cell} {q : Addr} (hown : s.vm.findClass own = some m.cls) (pre : List ExceptionTableEntry) (x : ExceptionTableEntry) (suf : List ExceptionTableEntry) (hsplit : c.exceptionTable.toList = pre ++ x :: suf)
    (hpass : ∀ z ∈ pre, covers z pc = false ∨ (z.catchType ≠ 0 ∧ ∃ nm : String, (Cond.classLink own z.catchType nm).before args s = true ∧ va_Nc E nm s)) (hx : covers x pc = true) (h0 : x.catchType ≠ 0)
    (hlink : (Cond.classLink own x.catchType name).before args s = true) (hcast : (Cond.castable E name).before args s = true) (hcell : H[q]? = some ce) (hv : ce.vm = .none) (hcl : s.vm.findClass E = some ce.cls)
    (kk : W p l e R s m args below meth c H locs cells slots Q (F0 m x.handlerPc ls [.ref q])) : vx_W p l e R s m args below meth c H locs cells slots Q (F0 m pc ls rest) q := by
  intro T hT X
  have hpl : e.platform.magicAccessors = ({} : Platform).magicAccessors := by rw [X.admits.platform]
  obtain ⟨c3, c4, hc3, hc4, hasg⟩ := Cond.castable_spec hcast
  cases Option.some.inj (hc3.symm.trans hcl)
  obtain ⟨c5, hc5, hcl5⟩ := Cond.classLink_spec hown hlink e.platform hpl
  cases Option.some.inj (hc4.symm.trans hc5)
  obtain ⟨vm', X', st⟩ := X.thenCaughtThrough q (g := F0 m pc ls rest) rfl (Steps.refl _) (by rw [hT]; exact hcell) (by rw [hv]; rfl) (by obtain ⟨k9, h9, -⟩ := Vm.findClass_spec hcl; exact ⟨k9, h9⟩) pre x suf hsplit
    (fun z hz => by
      rcases hpass z hz with h | ⟨hz0, nm, hl1, hn1⟩
      · exact Or.inl h
      · obtain ⟨c6, hc6, hcl6⟩ := Cond.classLink_spec hown hl1 e.platform hpl
        obtain ⟨a8, b8, h1, h2, h3⟩ := hn1
        cases Option.some.inj (h1.symm.trans hcl)
        cases Option.some.inj (h2.symm.trans hc6)
        exact Or.inr ⟨hz0, _, hcl6, h3⟩) hx (Or.inr ⟨h0, c4, hcl5, hasg⟩)
  obtain ⟨t, a1, b1⟩ := kk (T.setVm vm') hT X'
  exact ⟨t, st.trans a1, b1⟩
end Rows
section Ends
variable {p : Program} {l : Launch} {e : Env} {R : Room} {s : State} {m : MethodId} {args : Array Value} {below : List Frame} {meth : Method} {c : Code} {H : Heap} {locs : List Loc} {cells slots : Nat} {Q : State → Prop}
variable {mc ms : Nat} {free : Addr → Prop} {A0 A1 : Nat → Prop} {H0 : Heap} {a : Array Value} {ls : Array Slot} {st0 rest : List Value}
variable {Qc : Array Value → State → Outcome → State → Prop} {XC : String → State → State → Prop}
/-- what a body that may throw owes at its end -/
def vx_MQ (below : List Frame) (Qc : Array Value → State → Outcome → State → Prop) (XC : String → State → State → Prop) (a : Array Value) (s : State) (mc ms : Nat) (free : Addr → Prop) : State → Prop := fun t =>
  ∃ o, t.status = .running ∧ Ended t below o ∧ vx_Q Qc XC mc ms free a s o t
theorem vx_ret {g : JFrame} {mc ms : Nat} (k : W p l e R s m args below meth c H locs cells slots (MQ below Qc args s mc ms free) g) : W p l e R s m args below meth c H locs cells slots (vx_MQ below Qc XC args s mc ms free) g := by
  intro T hT X
  obtain ⟨t, a1, o, b1, b2, b3, b4⟩ := k T hT X
  exact ⟨t, a1, o, b1, b2, Or.inl ⟨b3, b4⟩⟩
/-- not caught here: it goes on to the caller -/
theorem vx_widen {g : JFrame} {q : Addr} {k n : Nat} (h1 : cells ≤ k) (h2 : slots ≤ n) (kk : vx_W p l e R s m args below meth c H locs k n Q g q) : vx_W p l e R s m args below meth c H locs cells slots Q g q := fun T hT X => kk T hT (stand_widen X h1 h2)
theorem vx_out {pc : Nat} {E : String} {ce : Cell} {q : Addr} {mc ms : Nat} (hout : ∀ x ∈ c.exceptionTable.toList, covers x pc = false) (hlocks : meth.locks = false) (hcell : H[q]? = some ce) (hv : ce.vm = .none) (hcl : s.vm.findClass E = some ce.cls)
    (hx : ∀ t : State, t.heap = H → s.vm.Alike t.vm → XC E s t) (hf : ∀ z ∈ locs, free z.base) (hc : cells ≤ mc) (hs : slots ≤ ms) :
    vx_W p l e R s m args below meth c H locs cells slots (vx_MQ below Qc XC args s mc ms free) (F0 m pc ls rest) q := by
  intro T hT X
  obtain ⟨st1, hrun, hend, hW, hsm⟩ := X.leaveThrown q (g := F0 m pc ls rest) rfl rfl rfl hout hlocks
  have hcell9 : (T.setFrames (.throwing q :: below)).heap[q]? = some ce := by
    show T.heap[q]? = some ce
    rw [hT]; exact hcell
  exact ⟨_, st1, .threw q, hrun, hend, Or.inr ⟨q, rfl, E, ce, locs, hx _ hT hW.alike, hcell9, hv, hcl, hW, hsm.mono hc hs, hf⟩⟩
theorem vx_frame {U : State} {k n : Nat} (h : s.sameButNew ({ U with vm := s.vm } : State) locs k n) : s.heap.size ≤ U.heap.size ∧ ∀ q : Nat, q < s.heap.size → (∀ z ∈ locs, z.base ≠ q) → U.heap[q]? = s.heap[q]? := by
  obtain ⟨-, h2, -, -, -, h6⟩ := h
  refine ⟨h2, fun q hq hz => ?_⟩
  obtain ⟨c9, e1, e2, e3, e4⟩ := h6 q _ (Array.getElem?_eq_getElem hq)
  have hs : c9.slots = (s.heap[q]).slots := Array.ext_getElem? fun i => e4 i fun hm => hz _ hm rfl
  have h9 : c9 = s.heap[q] := by
    rw [hs] at e2
    exact e2
  have e5 : U.heap[q]? = some c9 := e1
  rw [e5, h9, Array.getElem?_eq_getElem hq]
/-- the words of a throw but the four that speak of the heap -/
def vx_no (w : Cond) : Bool := decide (w ≠ .isRef (.static Bundle.tN "UNASSIGNED_STACK" Bundle.steD)) && decide (w ≠ .isRef (.static Bundle.tN "SUPPRESSED_SENTINEL" Bundle.listD)) && decide (w ≠ .laysStatic Bundle.tN "UNASSIGNED_STACK" Bundle.steD) && decide (w ≠ .laysStatic Bundle.tN "SUPPRESSED_SENTINEL" Bundle.listD)
def vx_at0 (own : String) (ic : Nat) (X : String) (names : List String) : List Cond := (Bundle.ownAtoms0 own ic X names).filter vx_no
def vx_atS (own : String) (ic : Nat) (X : String) (names : List String) : List Cond := (Bundle.ownAtoms own ic X names).filter vx_no
/-- a word that the tables alone decide, or a good one -/
def vx_ot (w : Cond) : Bool := w.onTables || goodWord w
theorem vx_ot_at {args a' : Array Value} {s U : State} {w : Cond} (hW : s.WarmedH U.vm) (hvm : s.vm = U.vm) (hg : vx_ot w = true) (h : w.before args s = true) : w.before a' U = true := by
  simp only [vx_ot, Bool.or_eq_true] at hg
  rcases hg with hg | hg
  · exact va_tabs hg hvm h
  · exact word_at hW (good_of_word hg) h
/-- a list's words: the good ones out of the method's own list, the others by premises of their own -/
theorem vx_hat {args : Array Value} {s : State} {L B : List Cond} (h1 : ∀ w ∈ L.filter goodWord, w.before args s = true) (h2 : ∀ w ∈ L.filter (fun w => !goodWord w), w ∈ B) (h3 : ∀ w ∈ B, w.before args s = true) : ∀ w ∈ L, w.before args s = true := by
  intro w hw
  by_cases g : goodWord w = true
  · exact h1 w (List.mem_filter.mpr ⟨hw, g⟩)
  · refine h3 w (h2 w (List.mem_filter.mpr ⟨hw, ?_⟩))
    show (!goodWord w) = true
    cases hgw : goodWord w
    · rfl
    · exact absurd hgw g
theorem vx_c {args : Array Value} {s : State} {w : Cond} {B : List Cond} (h : w.before args s = true) (t : ∀ w ∈ B, w.before args s = true) : ∀ w' ∈ w :: B, w'.before args s = true := fun w' h' => (List.mem_cons.mp h').elim (fun e => by rw [e]; exact h) (t w')
theorem vx_n {args : Array Value} {s : State} : ∀ w ∈ ([] : List Cond), w.before args s = true := fun _ h => nomatch h
theorem vx_own {args : Array Value} {s : State} {L : List Cond} (h1 : ∀ w ∈ L.filter vx_no, w.before args s = true)
    (hU : (Cond.isRef (.static Bundle.tN "UNASSIGNED_STACK" Bundle.steD)).before args s = true) (hN : (Cond.isRef (.static Bundle.tN "SUPPRESSED_SENTINEL" Bundle.listD)).before args s = true)
    (lU : (Cond.laysStatic Bundle.tN "UNASSIGNED_STACK" Bundle.steD).before args s = true) (lN : (Cond.laysStatic Bundle.tN "SUPPRESSED_SENTINEL" Bundle.listD).before args s = true) : ∀ w ∈ L, w.before args s = true := by
  intro w hw
  by_cases e1 : w = .isRef (.static Bundle.tN "UNASSIGNED_STACK" Bundle.steD)
  · rw [e1]; exact hU
  · by_cases e2 : w = .isRef (.static Bundle.tN "SUPPRESSED_SENTINEL" Bundle.listD)
    · rw [e2]; exact hN
    · by_cases e3 : w = .laysStatic Bundle.tN "UNASSIGNED_STACK" Bundle.steD
      · rw [e3]; exact lU
      · by_cases e4 : w = .laysStatic Bundle.tN "SUPPRESSED_SENTINEL" Bundle.listD
        · rw [e4]; exact lN
        · exact h1 w (List.mem_filter.mpr ⟨hw, by unfold vx_no; rw [decide_eq_true e1, decide_eq_true e2, decide_eq_true e3, decide_eq_true e4]; rfl⟩)
/-- where a static field lies, its class's statics cell in H -/
def vx_L (C n d : String) (A : Nat → Prop) (U : State) (H : Heap) : Prop := ∃ (c : ClassId) (k : Class) (i : Nat) (f : Field) (a : Nat) (cell : Cell), U.vm.findClass C = some c ∧ U.fieldFound? C n d = some (c, k, i, f) ∧ f.isStatic = true ∧ k.statics = some a ∧ H[a]? = some cell ∧ cell.vm.isStatics = true ∧ cell.cls = c ∧ f.slot < cell.slots.size ∧ k.staticTypes[f.slot]? = some f.type ∧ ¬ A a
theorem vx_L.moved {C n d : String} {A : Nat → Prop} {u U : State} {H : Heap} (hvm : u.vm.Alike U.vm) (h : vx_L C n d A u H) : vx_L C n d A U H := by
  obtain ⟨c, k, i, f, a, cell, h1, h2, h3, h4, h5, h6, h7, h8, h9, h10⟩ := h
  obtain ⟨k', hi', he⟩ := State.fieldFound?_setVm hvm h2
  exact ⟨c, k', i, f, a, cell, by rw [hvm.findClass]; exact h1, hi', h3, by rw [he]; exact h4, h5, h6, h7, h8, by rw [he]; exact h9, h10⟩
theorem vx_L.kept {C n d : String} {A : Nat → Prop} {U : State} {H H1 : Heap} (h : vx_L C n d A U H) (hq : ∀ a : Nat, a < H.size → ¬ A a → H1[a]? = H[a]?) : vx_L C n d A U H1 := by
  obtain ⟨c, k, i, f, a, cell, h1, h2, h3, h4, h5, h6, h7, h8, h9, h10⟩ := h
  exact ⟨c, k, i, f, a, cell, h1, h2, h3, h4, by rw [hq a (Array.getElem?_eq_some_iff.mp h5).1 h10]; exact h5, h6, h7, h8, h9, h10⟩
theorem vx_L.narrow {C n d : String} {A B : Nat → Prop} {U : State} {H : Heap} (h : vx_L C n d A U H) (hAB : ∀ q, B q → A q) : vx_L C n d B U H := by
  obtain ⟨c, k, i, f, a, cell, h1, h2, h3, h4, h5, h6, h7, h8, h9, h10⟩ := h
  exact ⟨c, k, i, f, a, cell, h1, h2, h3, h4, h5, h6, h7, h8, h9, fun z => h10 (hAB _ z)⟩
theorem vx_L.word {C n d : String} {A : Nat → Prop} {s : State} {args : Array Value} (h : vx_L C n d A s s.heap) : (Cond.laysStatic C n d).before args s = true := by
  obtain ⟨c, k, i, f, a, cell, h1, h2, h3, h4, h5, h6, h7, h8, h9, -⟩ := h
  show (Cond.laysStatic C n d).holds args s none s [] = true
  exact Cond.laysStatic_of h1 h2 h3 h4 h5 h6 h7 h8 h9
/-- .. and what it holds: null or some reference -/
def vx_Zq (C n d : String) (A : Nat → Prop) (U : State) (H : Heap) : Prop := va_Zq C n d A U H ∧ vx_L C n d A U H
theorem vx_Zq.moved {C n d : String} {A : Nat → Prop} {u U : State} {H : Heap} (hvm : u.vm.Alike U.vm) (h : vx_Zq C n d A u H) : vx_Zq C n d A U H := ⟨va_Zq.moved hvm h.1, vx_L.moved hvm h.2⟩
theorem vx_Zq.kept {C n d : String} {A : Nat → Prop} {U : State} {H H1 : Heap} (h : vx_Zq C n d A U H) (hq : ∀ a : Nat, a < H.size → ¬ A a → H1[a]? = H[a]?) : vx_Zq C n d A U H1 := ⟨va_Zq.kept h.1 hq, vx_L.kept h.2 hq⟩
theorem vx_Zq.narrow {C n d : String} {A B : Nat → Prop} {U : State} {H : Heap} (h : vx_Zq C n d A U H) (hAB : ∀ q, B q → A q) : vx_Zq C n d B U H := ⟨va_Zq.narrow h.1 hAB, vx_L.narrow h.2 hAB⟩
theorem vx_Zqof {args : Array Value} {s : State} {C n d : String} {A : Nat → Prop} (hl : (Cond.laysStatic C n d).before args s = true) (hini : (Cond.initialized C).before args s = true) (h : (Cond.isRef (.static C n d)).before args s = true) (hA : ∀ a : Nat, a < s.heap.size → ¬ A a) : vx_Zq C n d A s s.heap := by
  refine ⟨va_Zqof hl hini h hA, ?_⟩
  obtain ⟨c, k, i, f, a, cell, h1, h2, h3, h4, h5, h6, h7, h8, h9⟩ := Cond.laysStatic_spec hl
  exact ⟨c, k, i, f, a, cell, h1, h2, h3, h4, h5, h6, h7, h8, h9, hA a (Array.getElem?_eq_some_iff.mp h5).1⟩
theorem vx_isRef {C n d : String} {v : Value} {A : Nat → Prop} {s : State} {args : Array Value} (h : va_Z C n d v A s s.heap) (hv : v.isRef = true) : (Cond.isRef (.static C n d)).before args s = true := by
  obtain ⟨cf, kf, fi, f, a, cell, h1, h2, h3, h4, h5, h6, h7, -⟩ := h
  have he : (Term.static C n d).eval args s none [] s = some v := by
    simp [Term.eval, State.fieldNamed?, h1, h2, h4, h5, h6, h7]
  simp only [Cond.before, Cond.holds, Cond.value, he]
  cases v <;> simp_all [Value.isRef]
theorem vx_isRefq {C n d : String} {A : Nat → Prop} {s : State} {args : Array Value} (h : va_Zq C n d A s s.heap) : (Cond.isRef (.static C n d)).before args s = true := by
  rcases h with h | ⟨t, h⟩
  · exact vx_isRef h rfl
  · exact vx_isRef h rfl
/-- the same frame, seen from here: as if the method were called anew in this heap -/
theorem vx_rebase {T : State} (X : Stand p l e R s m args below meth c T locs cells slots) {R' : Room} (hf : R'.frames ≤ R.frames) (hl : R'.locals ≤ R.locals) (hc : cells + R'.cells ≤ R.cells) (hs : slots + R'.slots ≤ R.slots) :
    Stand p l e R' ((T.setVm s.vm).setFrames (.invoking m args :: below)) m args below meth c T [] 0 0 := by
  have htop : (T.setVm s.vm).topJava?.isSome := X.here.top
  have hF : ((T.setVm s.vm).setFrames (.invoking m args :: below)).frames = .invoking m args :: below := State.frames_setFrames _ (State.cur_lt_of_top htop)
  obtain ⟨g₀, hg0⟩ := Option.isSome_iff_exists.mp htop
  obtain ⟨r, hr⟩ := State.topJava?_eq_some.mp hg0
  have hl9 : e.platform.stackLimits (T.setVm s.vm).me = e.platform.stackLimits s.me := X.limits
  have hb9 : (T.setVm s.vm).me.stackBytes = s.me.stackBytes := X.bytes
  refine ⟨X.admits, X.cas, X.clock, hF, ?_, X.hears, X.method, X.code, X.here, X.tail, X.warmed, ?_, ?_, ?_⟩
  · have h := X.room
    have hU : ((T.setVm s.vm).setFrames (.invoking m args :: below)).localsInUse = s.localsInUse := by
      rw [State.localsInUse_invoking hF (meth := meth) (c := c) X.method X.code, State.localsInUse_invoking X.frames X.method X.code]
    simp only [State.hasRoom, Bool.and_eq_true, decide_eq_true_eq] at h ⊢
    obtain ⟨⟨⟨⟨h1, h2, h3, h4, h5, h6⟩, h7⟩, h8⟩, h9⟩ := h
    rw [X.frames, List.length_cons] at h2 h3
    have q1 := X.heapSize
    have q2 := X.used
    simp only [hF, hU, List.length_cons, State.stackLimits_setFrames, State.stackBytes_setFrames, hl9, hb9]
    refine ⟨⟨⟨⟨by omega, by omega, by omega, by omega, by omega, h6⟩, ?_⟩, ?_⟩, X.book⟩
    · show T.heap.size + R'.cells ≤ e.platform.maxCells
      omega
    · show T.slotsUsed + R'.slots ≤ e.platform.maxSlots
      omega
  · rw [State.stackLimits_setFrames]; rfl
  · rw [State.stackBytes_setFrames]; rfl
  · refine ⟨?_, Nat.le_refl _, Nat.le_refl _, ?_, ?_, fun a c9 h9 => ⟨c9, h9, rfl, rfl, fun _ _ => rfl⟩⟩
    · obtain ⟨t, ht, -⟩ := State.frames_cons hr
      show T.setVm s.vm = { ((T.setVm s.vm).setFrames (.invoking m args :: below)).setFrames (T.setVm s.vm).frames with heap := T.heap, slotsUsed := T.slotsUsed }
      rw [State.setFrames_setFrames, State.setFrames_self ht]
      rfl
    · show T.slotsUsed = T.slotsUsed + ((T.heap.toList.drop T.heap.size).map (·.slots.size)).sum
      rw [List.drop_eq_nil_of_le (Nat.le_of_eq Array.length_toList)]
      rfl
    · show ((T.heap.toList.drop T.heap.size).map (·.slots.size)).sum ≤ 0
      rw [List.drop_eq_nil_of_le (Nat.le_of_eq Array.length_toList)]
      exact Nat.le_refl _
/-- 'throw new E()': new; dup; invokespecial; athrow -/
theorem vx_throw0 {cc : ByteArray} {pc : Nat} (hexec : p.tables.exec = Jvm.exec) (hb : c.code = cc) (hl : l.stackTraces = false) {own cls : String} {names : List String} {ik ic mc ms : Nat} {A : Nat → Prop}
    (hown : s.vm.findClass own = some m.cls) (hcls : Bundle.fit cls = true) (hnames : ∀ n ∈ names, Bundle.fit n = true)
    (hk : (Cond.classLink own ik cls).before args s = true) (hini : (Cond.initialized cls).before args s = true) (hat : ∀ w ∈ vx_at0 own ic cls names, w.before args s = true)
    (hgood : ∀ w ∈ Cond.classLink own ik cls :: Cond.initialized cls :: vx_at0 own ic cls names, vx_ot w = true)
    (hU : vx_Zq Bundle.tN "UNASSIGNED_STACK" Bundle.steD A s s.heap) (hN : vx_Zq Bundle.tN "SUPPRESSED_SENTINEL" Bundle.listD A s s.heap) (hS : va_S A s.heap H locs) (hsize : ls.size = c.maxLocals)
    (d0 : decode cc pc = .ok (.new ik, 3)) (d3 : decode cc (pc + 3) = .ok (.dup, 1)) (d4 : decode cc (pc + 4) = .ok (.invokespecial ic, 3)) (d7 : decode cc (pc + 7) = .ok (.athrow, 1))
    (hout : ∀ x ∈ c.exceptionTable.toList, covers x (pc + 7) = false)
    (hRframes : names.length + 3 < R.frames) (hRlocals : (rest.map fun v => v.category).sum + (13 * (names.length + 1) + 42) ≤ R.locals) (hRcells : cells + 1 ≤ R.cells) (hRslots : slots + 6 ≤ R.slots) (hlocks : meth.locks = false)
    (hx : ∀ t : State, s.vm.Alike t.vm → H.size ≤ t.heap.size → (∀ q : Nat, q < H.size → t.heap[q]? = H[q]?) → XC cls s t)
    (hf : ∀ z ∈ locs, free z.base) (hc : cells + 1 ≤ mc) (hs : slots + 6 ≤ ms) :
    W p l e R s m args below meth c H locs cells slots (vx_MQ below Qc XC args s mc ms free) (F0 m pc ls rest) := by
  intro T hT X
  have htr : e.platform.stackTraces = false := (show e.platform.stackTraces = l.stackTraces by rw [X.admits.platform]).trans hl
  have Y := vx_rebase X (R' := { frames := R.frames, locals := R.locals, cells := 1, slots := 6 }) (Nat.le_refl _) (Nat.le_refl _) hRcells hRslots
  obtain ⟨s', hA⟩ : ∃ z, z = (T.setVm s.vm).setFrames (.invoking m args :: below) := ⟨_, rfl⟩
  rw [← hA] at Y
  have hvm : s'.vm = s.vm := by rw [hA]; rfl
  have hhp : s'.heap = H := by rw [hA]; exact hT
  have hW0 : s.WarmedH s'.vm := by rw [hvm]; exact State.WarmedH.refl s
  have hat' : ∀ w ∈ vx_at0 own ic cls names, w.before args s' = true := fun w hw => vx_ot_at hW0 hvm.symm (hgood w (List.mem_cons_of_mem _ (List.mem_cons_of_mem _ hw))) (hat w hw)
  have hk' : (Cond.classLink own ik cls).before args s' = true := vx_ot_at hW0 hvm.symm (hgood _ List.mem_cons_self) hk
  have hini' : (Cond.initialized cls).before args s' = true := vx_ot_at hW0 hvm.symm (hgood _ (List.mem_cons_of_mem _ List.mem_cons_self)) hini
  have hU' : vx_Zq Bundle.tN "UNASSIGNED_STACK" Bundle.steD A s' s'.heap := by rw [hhp]; exact vx_Zq.moved hW0.alike (hU.kept hS.2.1)
  have hN' : vx_Zq Bundle.tN "SUPPRESSED_SENTINEL" Bundle.listD A s' s'.heap := by rw [hhp]; exact vx_Zq.moved hW0.alike (hN.kept hS.2.1)
  have h : ∀ w ∈ Bundle.ownAtoms0 own ic cls names, w.before args s' = true := vx_own hat' (vx_isRefq hU'.1) (vx_isRefq hN'.1) hU'.2.word hN'.2.word
  have hown' : s'.vm.findClass own = some m.cls := by rw [hvm]; exact hown
  have hins : (Cond.instantiable cls 6).before args s' = true := h _ (by simp [Bundle.ownAtoms0])
  obtain ⟨vm₁, cX, kX, hfX, hkX, -, -, X₁, st1⟩ := Y.newCold hexec (own := own) (C := cls) (index := ik) (n := 6) hown' hk' hins hini'
    (g := F0 m pc ls rest) rfl (by rw [hb]; exact d0) (Nat.le_refl _) (Nat.le_refl _)
  generalize hT1 : (T.setVm vm₁).pushCell { cls := cX, slots := kX.instanceTypes.map defaultValue, vm := .none } = T1 at X₁ st1
  have hcat : (Value.ref T.heap.size).category = 1 := rfl
  have hcellA : T1.heap[T.heap.size]? = some (freshCell cX kX) := by rw [← hT1]; exact State.heap_pushCell_size _ _
  have d3' : decode c.code (pc + 3) = .ok (.dup, 1) := by rw [hb]; exact d3
  obtain ⟨U, hsteps, hrun, hend, hW, hsame, ce, hce, hO⟩ := X₁.ctorThrow0 hexec htr (own := own) (cls := cls) (names := names) (ic := ic) hown' hcls hnames h (fun x hx => nomatch hx) hfX hkX hcellA (by rw [hhp, hT]; exact Nat.le_refl _)
    (g := { method := m, pc := pc + 4, locals := ls, stack := .ref T.heap.size :: .ref T.heap.size :: rest, locked := none }) rfl hsize rfl rfl (rest := rest) rfl
    (by rw [hb]; exact d4) (by rw [hb]; exact d7) hout hRframes (by simp only [List.map_cons, List.sum_cons, hcat]; omega) hlocks
  obtain ⟨f1, f2⟩ := vx_frame hsame
  rw [hhp] at f1 f2
  have hWs : s.WarmedH U.vm := State.WarmedH.trans hW0 hW
  have hcl : s.vm.findClass cls = some ce.cls := by
    have h9 := hO.cls
    rw [hvm] at h9
    exact h9
  have hall : s.sameButNew ({ U with vm := s.vm } : State) locs mc ms := by
    subst hA
    obtain ⟨e1, e2⟩ := hsame
    rw [State.setFrames_setFrames] at e1
    have h2 : (T.setVm s.vm).sameButNew ({ U with vm := s.vm } : State) [] (0 + 1) (0 + 6) := ⟨e1, e2⟩
    have h3 := X.same.trans h2
    rw [List.append_nil] at h3
    exact h3.mono hc hs
  refine ⟨U, ?_, .threw T.heap.size, hrun, hend, Or.inr ⟨T.heap.size, rfl, cls, ce, locs, hx U hWs.alike f1 (fun q hq => f2 q hq (fun z hz => nomatch hz)), hce, hO.vm, hcl, hWs, hall, hf⟩⟩
  refine st1 _ ?_
  show Steps p.tables e below (T1.setTop { method := m, pc := pc + 3, locals := ls, stack := .ref T.heap.size :: rest, locked := none }) _
  jvm_step X₁.here [X₁.here.top, hexec, d3', Value.category]
  exact hsteps
/-- 'throw new E("text")': new; dup; ldc; invokespecial; athrow -/
theorem vx_throwS {cc : ByteArray} {pc : Nat} (hexec : p.tables.exec = Jvm.exec) (hb : c.code = cc) (hl : l.stackTraces = false) {own cls text : String} {names : List String} {ik is ic mc ms sa : Nat} {A : Nat → Prop}
    (hown : s.vm.findClass own = some m.cls) (hcls : Bundle.fit cls = true) (hnames : ∀ n ∈ names, Bundle.fit n = true)
    (hk : (Cond.classLink own ik cls).before args s = true) (hini : (Cond.initialized cls).before args s = true) (hstr : vk_R own is text sa s) (hat : ∀ w ∈ vx_atS own ic cls names, w.before args s = true)
    (hgood : ∀ w ∈ Cond.classLink own ik cls :: Cond.initialized cls :: vx_atS own ic cls names, vx_ot w = true)
    (hU : vx_Zq Bundle.tN "UNASSIGNED_STACK" Bundle.steD A s s.heap) (hN : vx_Zq Bundle.tN "SUPPRESSED_SENTINEL" Bundle.listD A s s.heap) (hS : va_S A s.heap H locs) (hsize : ls.size = c.maxLocals)
    (d0 : decode cc pc = .ok (.new ik, 3)) (d3 : decode cc (pc + 3) = .ok (.dup, 1)) (d4 : decode cc (pc + 4) = .ok (.ldc is, 2)) (d6 : decode cc (pc + 6) = .ok (.invokespecial ic, 3)) (d9 : decode cc (pc + 9) = .ok (.athrow, 1))
    (hout : ∀ x ∈ c.exceptionTable.toList, covers x (pc + 9) = false)
    (hRframes : names.length + 3 < R.frames) (hRlocals : (rest.map fun v => v.category).sum + (13 * (names.length + 1) + 43) ≤ R.locals) (hRcells : cells + 1 ≤ R.cells) (hRslots : slots + 6 ≤ R.slots) (hlocks : meth.locks = false)
    (hx : ∀ t : State, s.vm.Alike t.vm → H.size ≤ t.heap.size → (∀ q : Nat, q < H.size → t.heap[q]? = H[q]?) → XC cls s t)
    (hf : ∀ z ∈ locs, free z.base) (hc : cells + 1 ≤ mc) (hs : slots + 6 ≤ ms) :
    W p l e R s m args below meth c H locs cells slots (vx_MQ below Qc XC args s mc ms free) (F0 m pc ls rest) := by
  intro T hT X
  have htr : e.platform.stackTraces = false := (show e.platform.stackTraces = l.stackTraces by rw [X.admits.platform]).trans hl
  have Y := vx_rebase X (R' := { frames := R.frames, locals := R.locals, cells := 1, slots := 6 }) (Nat.le_refl _) (Nat.le_refl _) hRcells hRslots
  obtain ⟨s', hA⟩ : ∃ z, z = (T.setVm s.vm).setFrames (.invoking m args :: below) := ⟨_, rfl⟩
  rw [← hA] at Y
  have hvm : s'.vm = s.vm := by rw [hA]; rfl
  have hhp : s'.heap = H := by rw [hA]; exact hT
  have hW0 : s.WarmedH s'.vm := by rw [hvm]; exact State.WarmedH.refl s
  have hat' : ∀ w ∈ vx_atS own ic cls names, w.before args s' = true := fun w hw => vx_ot_at hW0 hvm.symm (hgood w (List.mem_cons_of_mem _ (List.mem_cons_of_mem _ hw))) (hat w hw)
  have hk' : (Cond.classLink own ik cls).before args s' = true := vx_ot_at hW0 hvm.symm (hgood _ List.mem_cons_self) hk
  have hini' : (Cond.initialized cls).before args s' = true := vx_ot_at hW0 hvm.symm (hgood _ (List.mem_cons_of_mem _ List.mem_cons_self)) hini
  have hU' : vx_Zq Bundle.tN "UNASSIGNED_STACK" Bundle.steD A s' s'.heap := by rw [hhp]; exact vx_Zq.moved hW0.alike (hU.kept hS.2.1)
  have hN' : vx_Zq Bundle.tN "SUPPRESSED_SENTINEL" Bundle.listD A s' s'.heap := by rw [hhp]; exact vx_Zq.moved hW0.alike (hN.kept hS.2.1)
  have h : ∀ w ∈ Bundle.ownAtoms own ic cls names, w.before args s' = true := vx_own hat' (vx_isRefq hU'.1) (vx_isRefq hN'.1) hU'.2.word hN'.2.word
  have hown' : s'.vm.findClass own = some m.cls := by rw [hvm]; exact hown
  have hins : (Cond.instantiable cls 6).before args s' = true := h _ (by simp [Bundle.ownAtoms])
  obtain ⟨vm₁, cX, kX, hfX, hkX, -, -, X₁, st1⟩ := Y.newCold hexec (own := own) (C := cls) (index := ik) (n := 6) hown' hk' hins hini'
    (g := F0 m pc ls rest) rfl (by rw [hb]; exact d0) (Nat.le_refl _) (Nat.le_refl _)
  generalize hT1 : (T.setVm vm₁).pushCell { cls := cX, slots := kX.instanceTypes.map defaultValue, vm := .none } = T1 at X₁ st1
  have hcat : (Value.ref T.heap.size).category = 1 := rfl
  have hcellA : T1.heap[T.heap.size]? = some (freshCell cX kX) := by rw [← hT1]; exact State.heap_pushCell_size _ _
  have d3' : decode c.code (pc + 3) = .ok (.dup, 1) := by rw [hb]; exact d3
  have d4' : decode c.code (pc + 4) = .ok (.ldc is, 2) := by rw [hb]; exact d4
  have hstr' : vk_R own is text sa s' := vk_R.warm hW0 hstr
  obtain ⟨U, hsteps, hrun, hend, hW, hsame, ce, hce, hO⟩ := X₁.ctorThrowS hexec htr (own := own) (cls := cls) (names := names) (ic := ic) hown' hcls hnames h (fun x hx => nomatch hx) hfX hkX hcellA (by rw [hhp, hT]; exact Nat.le_refl _) (msg := .ref sa) rfl
    (g := { method := m, pc := pc + 6, locals := ls, stack := .ref sa :: .ref T.heap.size :: .ref T.heap.size :: rest, locked := none }) rfl hsize rfl rfl (rest := rest) rfl
    (by rw [hb]; exact d6) (by rw [hb]; exact d9) hout hRframes (by simp only [List.map_cons, List.sum_cons, hcat]; omega) hlocks
  obtain ⟨f1, f2⟩ := vx_frame hsame
  rw [hhp] at f1 f2
  have hWs : s.WarmedH U.vm := State.WarmedH.trans hW0 hW
  have hcl : s.vm.findClass cls = some ce.cls := by
    have h9 := hO.cls
    rw [hvm] at h9
    exact h9
  have hall : s.sameButNew ({ U with vm := s.vm } : State) locs mc ms := by
    subst hA
    obtain ⟨e1, e2⟩ := hsame
    rw [State.setFrames_setFrames] at e1
    have h2 : (T.setVm s.vm).sameButNew ({ U with vm := s.vm } : State) [] (0 + 1) (0 + 6) := ⟨e1, e2⟩
    have h3 := X.same.trans h2
    rw [List.append_nil] at h3
    exact h3.mono hc hs
  refine ⟨U, ?_, .threw T.heap.size, hrun, hend, Or.inr ⟨T.heap.size, rfl, cls, ce, locs, hx U hWs.alike f1 (fun q hq => f2 q hq (fun z hz => nomatch hz)), hce, hO.vm, hcl, hWs, hall, hf⟩⟩
  refine st1 _ ?_
  show Steps p.tables e below (T1.setTop { method := m, pc := pc + 3, locals := ls, stack := .ref T.heap.size :: rest, locked := none }) _
  jvm_step X₁.here [X₁.here.top, hexec, d3', Value.category]
  exact X₁.ldcString hexec (own := own) (text := text) (index := is) (a := sa) hown' hstr'.1 hstr'.2
    (g := { method := m, pc := pc + 4, locals := ls, stack := .ref T.heap.size :: .ref T.heap.size :: rest, locked := none }) rfl d4' _ hsteps
/-- 'throw new E("text")', the text by a wide index -/
theorem vx_throwSW {cc : ByteArray} {pc : Nat} (hexec : p.tables.exec = Jvm.exec) (hb : c.code = cc) (hl : l.stackTraces = false) {own cls text : String} {names : List String} {ik is ic mc ms sa : Nat} {A : Nat → Prop}
    (hown : s.vm.findClass own = some m.cls) (hcls : Bundle.fit cls = true) (hnames : ∀ n ∈ names, Bundle.fit n = true)
    (hk : (Cond.classLink own ik cls).before args s = true) (hini : (Cond.initialized cls).before args s = true) (hstr : vk_R own is text sa s) (hat : ∀ w ∈ vx_atS own ic cls names, w.before args s = true)
    (hgood : ∀ w ∈ Cond.classLink own ik cls :: Cond.initialized cls :: vx_atS own ic cls names, vx_ot w = true)
    (hU : vx_Zq Bundle.tN "UNASSIGNED_STACK" Bundle.steD A s s.heap) (hN : vx_Zq Bundle.tN "SUPPRESSED_SENTINEL" Bundle.listD A s s.heap) (hS : va_S A s.heap H locs) (hsize : ls.size = c.maxLocals)
    (d0 : decode cc pc = .ok (.new ik, 3)) (d3 : decode cc (pc + 3) = .ok (.dup, 1)) (d4 : decode cc (pc + 4) = .ok (.ldc_w is, 3)) (d7 : decode cc (pc + 7) = .ok (.invokespecial ic, 3)) (d10 : decode cc (pc + 10) = .ok (.athrow, 1))
    (hout : ∀ x ∈ c.exceptionTable.toList, covers x (pc + 10) = false)
    (hRframes : names.length + 3 < R.frames) (hRlocals : (rest.map fun v => v.category).sum + (13 * (names.length + 1) + 43) ≤ R.locals) (hRcells : cells + 1 ≤ R.cells) (hRslots : slots + 6 ≤ R.slots) (hlocks : meth.locks = false)
    (hx : ∀ t : State, s.vm.Alike t.vm → H.size ≤ t.heap.size → (∀ q : Nat, q < H.size → t.heap[q]? = H[q]?) → XC cls s t)
    (hf : ∀ z ∈ locs, free z.base) (hc : cells + 1 ≤ mc) (hs : slots + 6 ≤ ms) :
    W p l e R s m args below meth c H locs cells slots (vx_MQ below Qc XC args s mc ms free) (F0 m pc ls rest) := by
  intro T hT X
  have htr : e.platform.stackTraces = false := (show e.platform.stackTraces = l.stackTraces by rw [X.admits.platform]).trans hl
  have Y := vx_rebase X (R' := { frames := R.frames, locals := R.locals, cells := 1, slots := 6 }) (Nat.le_refl _) (Nat.le_refl _) hRcells hRslots
  obtain ⟨s', hA⟩ : ∃ z, z = (T.setVm s.vm).setFrames (.invoking m args :: below) := ⟨_, rfl⟩
  rw [← hA] at Y
  have hvm : s'.vm = s.vm := by rw [hA]; rfl
  have hhp : s'.heap = H := by rw [hA]; exact hT
  have hW0 : s.WarmedH s'.vm := by rw [hvm]; exact State.WarmedH.refl s
  have hat' : ∀ w ∈ vx_atS own ic cls names, w.before args s' = true := fun w hw => vx_ot_at hW0 hvm.symm (hgood w (List.mem_cons_of_mem _ (List.mem_cons_of_mem _ hw))) (hat w hw)
  have hk' : (Cond.classLink own ik cls).before args s' = true := vx_ot_at hW0 hvm.symm (hgood _ List.mem_cons_self) hk
  have hini' : (Cond.initialized cls).before args s' = true := vx_ot_at hW0 hvm.symm (hgood _ (List.mem_cons_of_mem _ List.mem_cons_self)) hini
  have hU' : vx_Zq Bundle.tN "UNASSIGNED_STACK" Bundle.steD A s' s'.heap := by rw [hhp]; exact vx_Zq.moved hW0.alike (hU.kept hS.2.1)
  have hN' : vx_Zq Bundle.tN "SUPPRESSED_SENTINEL" Bundle.listD A s' s'.heap := by rw [hhp]; exact vx_Zq.moved hW0.alike (hN.kept hS.2.1)
  have h : ∀ w ∈ Bundle.ownAtoms own ic cls names, w.before args s' = true := vx_own hat' (vx_isRefq hU'.1) (vx_isRefq hN'.1) hU'.2.word hN'.2.word
  have hown' : s'.vm.findClass own = some m.cls := by rw [hvm]; exact hown
  have hins : (Cond.instantiable cls 6).before args s' = true := h _ (by simp [Bundle.ownAtoms])
  obtain ⟨vm₁, cX, kX, hfX, hkX, -, -, X₁, st1⟩ := Y.newCold hexec (own := own) (C := cls) (index := ik) (n := 6) hown' hk' hins hini'
    (g := F0 m pc ls rest) rfl (by rw [hb]; exact d0) (Nat.le_refl _) (Nat.le_refl _)
  generalize hT1 : (T.setVm vm₁).pushCell { cls := cX, slots := kX.instanceTypes.map defaultValue, vm := .none } = T1 at X₁ st1
  have hcat : (Value.ref T.heap.size).category = 1 := rfl
  have hcellA : T1.heap[T.heap.size]? = some (freshCell cX kX) := by rw [← hT1]; exact State.heap_pushCell_size _ _
  have d3' : decode c.code (pc + 3) = .ok (.dup, 1) := by rw [hb]; exact d3
  have d4' : decode c.code (pc + 4) = .ok (.ldc_w is, 3) := by rw [hb]; exact d4
  have hstr' : vk_R own is text sa s' := vk_R.warm hW0 hstr
  obtain ⟨U, hsteps, hrun, hend, hW, hsame, ce, hce, hO⟩ := X₁.ctorThrowS hexec htr (own := own) (cls := cls) (names := names) (ic := ic) hown' hcls hnames h (fun x hx => nomatch hx) hfX hkX hcellA (by rw [hhp, hT]; exact Nat.le_refl _) (msg := .ref sa) rfl
    (g := { method := m, pc := pc + 7, locals := ls, stack := .ref sa :: .ref T.heap.size :: .ref T.heap.size :: rest, locked := none }) rfl hsize rfl rfl (rest := rest) rfl
    (by rw [hb]; exact d7) (by rw [hb]; exact d10) hout hRframes (by simp only [List.map_cons, List.sum_cons, hcat]; omega) hlocks
  obtain ⟨f1, f2⟩ := vx_frame hsame
  rw [hhp] at f1 f2
  have hWs : s.WarmedH U.vm := State.WarmedH.trans hW0 hW
  have hcl : s.vm.findClass cls = some ce.cls := by
    have h9 := hO.cls
    rw [hvm] at h9
    exact h9
  have hall : s.sameButNew ({ U with vm := s.vm } : State) locs mc ms := by
    subst hA
    obtain ⟨e1, e2⟩ := hsame
    rw [State.setFrames_setFrames] at e1
    have h2 : (T.setVm s.vm).sameButNew ({ U with vm := s.vm } : State) [] (0 + 1) (0 + 6) := ⟨e1, e2⟩
    have h3 := X.same.trans h2
    rw [List.append_nil] at h3
    exact h3.mono hc hs
  refine ⟨U, ?_, .threw T.heap.size, hrun, hend, Or.inr ⟨T.heap.size, rfl, cls, ce, locs, hx U hWs.alike f1 (fun q hq => f2 q hq (fun z hz => nomatch hz)), hce, hO.vm, hcl, hWs, hall, hf⟩⟩
  refine st1 _ ?_
  show Steps p.tables e below (T1.setTop { method := m, pc := pc + 3, locals := ls, stack := .ref T.heap.size :: rest, locked := none }) _
  jvm_step X₁.here [X₁.here.top, hexec, d3', Value.category]
  exact X₁.ldcStringW hexec (own := own) (text := text) (index := is) (a := sa) hown' hstr'.1 hstr'.2
    (g := { method := m, pc := pc + 4, locals := ls, stack := .ref T.heap.size :: .ref T.heap.size :: rest, locked := none }) rfl d4' _ hsteps
end Ends
section Bodies
variable {l : Launch}
theorem vx_ofW {y : MethodName} {ws ws' : List Cond} {rm : Room} {Pc : Array Value → State → Prop} {Qc : Array Value → State → Outcome → State → Prop} {XC : String → State → State → Prop} {mc ms : Nat} {free : Addr → Prop} {cc : ByteArray} {maxL : Nat} {ret : Option FieldType}
    (hy : plainName y.cls = true) (hw : ws = Cond.code y cc maxL ret :: ws')
    (body : ∀ p e s m args below meth c s₁, BodyLoose p l y (headSpec ws rm) cc maxL ret e s m args below meth c s₁ → c.maxLocals = maxL → (∀ x ∈ c.exceptionTable.toList, False) → Pc args s →
      W p l e (headSpec ws rm).room s m args below meth c s.heap [] 0 0 (vx_MQ below Qc XC args s mc ms free) (entryFrame m args maxL)) : vx_Met l y ws rm Pc Qc XC mc ms free := by
  refine MetFree.of_bodyS (code := cc) (maxLocals := maxL) (ret := ret) hy ?_ ?_
  · intro args s m h hn
    obtain ⟨meth, c, h1, h2, h3, h4, h5, h6, -, -⟩ := Cond.code_spec hn (atoms_spec (ws := ws) h _ (by rw [hw]; exact List.mem_cons_self))
    exact ⟨meth, c, h1, h2, h3, h4, h5, h6⟩
  · intro p e s m args below meth c s₁ B hml hP _
    have hh0 : s₁.heap = s.heap := by rw [B.state]; rfl
    have ht : ∀ x ∈ c.exceptionTable.toList, False := by
      obtain ⟨meth9, c9, h1, h2, -, -, -, -, h7, -⟩ := Cond.code_spec B.named (atoms_spec (ws := ws) B.pre _ (by rw [hw]; exact List.mem_cons_self))
      cases Option.some.inj (h1.symm.trans B.method)
      cases Option.some.inj (h2.symm.trans (Stand.of_body B).code)
      intro x hx
      rw [Array.isEmpty_iff.mp h7] at hx
      cases hx
    obtain ⟨t, a1, o, b1, b2, b3⟩ := body p e s m args below meth c s₁ B hml ht hP s₁ hh0 (Stand.of_body B)
    exact ⟨t, o, a1, b1, b2, b3⟩
/-- the table of a body with handlers -/
theorem vx_table {p : Program} {x y : MethodName} {S : Spec} {cc bytes : ByteArray} {maxL maxL' : Nat} {ret ret' : Option FieldType} {e : Env} {s s₁ : State} {m : MethodId} {args : Array Value} {below : List Frame} {meth : Method} {c : Code} {hh : List (Nat × Nat × Nat × Nat)}
    (B : BodyLoose p l y S cc maxL ret e s m args below meth c s₁) (h : (Cond.codeWith y bytes maxL' ret' hh).before args s = true) : c.exceptionTable.toList = tableOf hh := by
  obtain ⟨m9, meth9, c9, hn9, h1, h2, -, -, h6, -⟩ := Cond.codeWith_spec h
  cases Option.some.inj (hn9.symm.trans B.named)
  cases Option.some.inj (h1.symm.trans B.method)
  cases Option.some.inj (h2.symm.trans (Stand.of_body B).code)
  rw [← h6, table_eq]
end Bodies
end VXA
/-! ===== END ===== -/
/-! ===== BEGIN a static call of a method with an exception table ===== -/
section VXS
variable {p : Program} {l : Launch} {e : Env} {R : Room} {s : State} {m : MethodId} {args : Array Value} {below : List Frame} {meth : Method} {c : Code} {T : State} {H : Heap} {locs : List Loc} {cells slots : Nat}
abbrev vx_CSW (R : Room) (s : State) (args : Array Value) (own : String) (index : Nat) (y : MethodName) (bytes : ByteArray) (maxL : Nat) (ret : Option FieldType) (hh : List (Nat × Nat × Nat × Nat)) (ws : List Cond) (rm : Room) (mc ms n : Nat) : Prop :=
  (rm.cells = mc ∧ rm.slots = ms ∧ rm.frames + 1 ≤ R.frames ∧ 8 + (maxL + 11) + rm.locals ≤ R.locals ∧ (∀ w ∈ ws, ∀ (a' : Array Value) (U : State), s.WarmedH U.vm → w.before a' U = true) ∧ Cond.codeWith y bytes maxL ret hh ∈ ws) ∧
  (Cond.codeWith y bytes maxL ret hh).before args s = true ∧ (Cond.initialized y.cls).before args s = true ∧ (y.cls ≠ "java/lang/invoke/MethodHandle" ∧ y.cls ≠ "java/lang/invoke/VarHandle") ∧
  (∀ sig, parseMethodDescriptor y.desc = some sig → n = sig.parameters.length) ∧ (Cond.methodLink own index y).before args s = true ∧ (Cond.static y).before args s = true
theorem vx_cwSW {own : String} {index maxL mc ms : Nat} {y : MethodName} {bytes : ByteArray} {ret : Option FieldType} {hh : List (Nat × Nat × Nat × Nat)} {Ts ws ws' : List Cond} {rm : Room} (n : Nat) (ht : ∀ w ∈ Ts, w.before args s = true) (hT : GoodIn Ts (va_wsS own index y ws)) (hw : ws = Cond.codeWith y bytes maxL ret hh :: ws') (hrc : rm.cells = mc) (hrs : rm.slots = ms)
    (hd : y.cls ≠ "java/lang/invoke/MethodHandle" ∧ y.cls ≠ "java/lang/invoke/VarHandle" ∧ (parseMethodDescriptor y.desc).map (fun d => d.parameters.length) = some n) (hR : rm.frames + 1 ≤ R.frames ∧ 8 + (maxL + 11) + rm.locals ≤ R.locals) :
    vx_CSW R s args own index y bytes maxL ret hh ws rm mc ms n := by
  have ok : ∀ w ∈ va_wsS own index y ws, w.before args s = true := fun w h => ht w (hT w h).1
  have hG : GoodIn Ts ws := fun w h => hT w (by unfold va_wsS; exact List.mem_append_right _ h)
  have hc : Cond.codeWith y bytes maxL ret hh ∈ ws := by rw [hw]; exact List.mem_cons_self
  refine ⟨⟨hrc, hrs, hR.1, hR.2, pay_in ht hG, hc⟩, ht _ (hG _ hc).1, ok _ (by simp [va_wsS]), ⟨hd.1, hd.2.1⟩, fun sig h => ?_, ok _ (by simp [va_wsS]), ok _ (by simp [va_wsS])⟩
  have h2 := hd.2.2
  rw [h] at h2
  exact (Option.some.inj h2).symm
theorem vx_callSW (X : Stand p l e R s m args below meth c T locs cells slots) (hexec : p.tables.exec = Jvm.exec) {own : String} {index : Nat} {y : MethodName} {bytes : ByteArray} {maxL : Nat} {ret : Option FieldType} {hh : List (Nat × Nat × Nat × Nat)}
    (hown : s.vm.findClass own = some m.cls) (hlink : (Cond.methodLink own index y).before args s = true) (hstat : (Cond.static y).before args s = true) (hinit : (Cond.initialized y.cls).before args s = true)
    (hcode : (Cond.codeWith y bytes maxL ret hh).before args s = true) (hy : y.cls ≠ "java/lang/invoke/MethodHandle" ∧ y.cls ≠ "java/lang/invoke/VarHandle")
    {W9 : Nat} {Pre : Pt → Array Value → Prop} {Post : Pt → Array Value → Option Value → Pt → Prop} (hK : Back l R p e below s args y 3 W9 Pre Post)
    {g : JFrame} (hg : g.method = m) (hsize : g.locals.size = c.maxLocals) {argsL rest : List Value} (hlen : ∀ sig, parseMethodDescriptor y.desc = some sig → argsL.length = sig.parameters.length)
    (hstack : g.stack = argsL.reverse ++ rest) (hW : 2 * g.monitorRoom + (rest.map fun v => v.category).sum ≤ W9) (hdg : decode c.code g.pc = .ok (.invokestatic index, 3))
    (hpre : ∀ vm₁, s.WarmedH vm₁ → Pre ⟨T.setVm vm₁, locs, cells, slots⟩ argsL.toArray) :
    ∃ (v : Option Value) (vm₁ : Vm) (B : Pt), s.WarmedH vm₁ ∧ Stand p l e R s m args below meth c B.U B.locs B.cells B.slots ∧ Post ⟨T.setVm vm₁, locs, cells, slots⟩ argsL.toArray v B ∧
      ∀ target, Steps p.tables e below (B.U.setTop { g with pc := g.pc + 3, stack := v.toList ++ rest }) target → Steps p.tables e below (T.setTop g) target := by
  obtain ⟨mk, methM, cM, hnamed, hmethM, -, -, -, -, -, -, hsigM⟩ := Cond.codeWith_spec hcode
  have hstatic : methM.isStatic = true := Cond.static_spec hnamed hmethM hstat
  obtain ⟨kP, hkP, -⟩ := className_of_methodNamed hnamed
  have hinitP : kP.init = .initialized := Cond.initialized_spec (findClass_of_methodNamed hnamed) hkP hinit
  obtain ⟨vm₁, X₁, hstep₁⟩ := X.invokestatic hexec hown hlink hnamed hmethM hstatic hkP hinitP hy (g := g) hg (argsL := argsL) (rest := rest) (hlen _ hsigM) hstack hdg
  obtain ⟨v, B, X', hpost, hsteps⟩ := hK m meth c ⟨T.setVm vm₁, locs, cells, slots⟩ { g with stack := rest } (.invokestatic index) mk argsL.toArray X₁ hg hsize hdg hW (X₁.named hnamed) (hpre vm₁ X₁.warmed)
  exact ⟨v, vm₁, B, X₁.warmed, X', hpost, fun target h => hstep₁ _ fun acts => by rw [doInvoke_state]; exact hsteps.trans h⟩
theorem vx_runSW {y : MethodName} {bytes cc : ByteArray} {maxL nL mc ms n index : Nat} {ret : Option FieldType} {hh : List (Nat × Nat × Nat × Nat)} {ws : List Cond} {rm : Room} {Pc : Array Value → State → Prop} {Qc : Array Value → State → Outcome → State → Prop} {free : Addr → Prop} {Ts : List Cond} {own : String} {As rest : List Value} {g : JFrame}
    (S : CallFix p m c cc nL s args Ts own) (hM : Met l y ws rm Pc Qc mc ms free) (cw : vx_CSW R s args own index y bytes maxL ret hh ws rm mc ms n) (hp : PreS s H Pc As)
    (hg : g.method = m) (hn : As.length = n) (hsize : g.locals.size = nL) (hstack : g.stack = As.reverse ++ rest) (hW : 2 * g.monitorRoom + (rest.map fun v => v.category).sum ≤ 8) (hdg : decode cc g.pc = .ok (.invokestatic index, 3)) (hf : cells + mc ≤ R.cells ∧ slots + ms ≤ R.slots) :
    va_Run p l e R s m args below meth c H locs cells slots mc ms g rest (Qc As.toArray) (free) := by
  obtain ⟨⟨hrc, hrs, hfr, hlo, hws, hcw⟩, hcode, hini, hy, hlen, hl, hstt⟩ := cw
  have hK : Back l R p e below s args y 3 8 (PreOf R mc ms Pc) (PostOf Qc mc ms free) := va_backW (hh := hh) (bytes := bytes) (maxL := maxL) (ret := ret) hM hp.1 hrc hrs hfr hlo hws hcw (fun a' U hW => word_at hW (Or.inl (by first | rfl | simp [Cond.onTables, Cond.keeps, Cond.steady])) hini)
  obtain ⟨hx, hb, hml, ho, -⟩ := S
  intro T hT X
  obtain ⟨v, vm₁, ⟨U', l2, c2, s2⟩, hW₁, X', ⟨g', mk, t, L, e1, e2, hq, h1, hL, h2, h3⟩, st⟩ := vx_callSW X hx (hh := hh) (bytes := bytes) (maxL := maxL) (ret := ret) ho hl hstt hini hcode hy hK hg (hsize.trans hml.symm) (argsL := As) (rest := rest) (fun sig h => hn.trans (hlen sig h)) hstack hW (by rw [hb]; exact hdg)
    (fun vm₁ hW₁ => ⟨hf.1, hf.2, hp.2 (T.setVm vm₁) hT hW₁⟩)
  dsimp only [Pt.U, Pt.locs, Pt.cells, Pt.slots] at X' e1 e2 h1 h2 h3 st
  subst h1; subst h2; subst h3
  exact ⟨v, (T.setVm vm₁).calling g' mk As.toArray, t, U', L, hT, X', hL, e1, e2, hq, st⟩
/-- not caught here, past rows that name other classes: it goes on to the caller -/
theorem vx_outP {p : Program} {l : Launch} {e : Env} {R : Room} {s : State} {m : MethodId} {args : Array Value} {below : List Frame} {meth : Method} {c : Code} {H : Heap} {locs : List Loc} {cells slots : Nat} {free : Addr → Prop} {ls : Array Slot} {rest : List Value} {Qc : Array Value → State → Outcome → State → Prop} {XC : String → State → State → Prop}
    {pc : Nat} {own E : String} {ce : Cell} {q : Addr} {mc ms : Nat} (hown : s.vm.findClass own = some m.cls) (hlocks : meth.locks = false)
    (hpass : ∀ z ∈ c.exceptionTable.toList, covers z pc = false ∨ (z.catchType ≠ 0 ∧ ∃ nm : String, (Cond.classLink own z.catchType nm).before args s = true ∧ va_Nc E nm s)) (hcell : H[q]? = some ce) (hv : ce.vm = .none) (hcl : s.vm.findClass E = some ce.cls)
    (hx : ∀ t : State, t.heap = H → s.vm.Alike t.vm → XC E s t) (hf : ∀ z ∈ locs, free z.base) (hc : cells ≤ mc) (hs : slots ≤ ms) :
    vx_W p l e R s m args below meth c H locs cells slots (vx_MQ below Qc XC args s mc ms free) (F0 m pc ls rest) q := by
  intro T hT X
  have hpl : e.platform.magicAccessors = ({} : Platform).magicAccessors := by rw [X.admits.platform]
  obtain ⟨vm', hW', X', st⟩ := X.outThrough hlocks q (g := F0 m pc ls rest) rfl rfl rfl (cell := ce) (by rw [hT]; exact hcell) (by rw [hv]; rfl)
    (by obtain ⟨k9, h9, -⟩ := Vm.findClass_spec hcl; exact ⟨k9, h9⟩) (fun z hz => by
      rcases hpass z hz with h | ⟨hz0, nm, hl1, hn1⟩
      · exact Or.inl h
      · obtain ⟨c6, hc6, hcl6⟩ := Cond.classLink_spec hown hl1 e.platform hpl
        obtain ⟨a8, b8, h1, h2, h3⟩ := hn1
        cases Option.some.inj (h1.symm.trans hcl)
        cases Option.some.inj (h2.symm.trans hc6)
        exact Or.inr ⟨hz0, _, hcl6, h3⟩)
  obtain ⟨g₀, hfr⟩ := X'.frames_eq
  have hcell9 : ((T.setVm vm').setFrames (.throwing q :: below)).heap[q]? = some ce := by
    show T.heap[q]? = some ce
    rw [hT]; exact hcell
  have hend : Ended ((T.setVm vm').setFrames (.throwing q :: below)) below (.threw q) := State.frames_setFrames _ (State.cur_lt_of_frames hfr)
  refine ⟨(T.setVm vm').setFrames (.throwing q :: below), ?_, .threw q, X'.here.running, hend, Or.inr ⟨q, rfl, E, ce, locs, hx _ hT (X'.ends _).1.alike, hcell9, hv, hcl, (X'.ends _).1, (X'.ends _).2.mono hc hs, hf⟩⟩
  rw [X.pushThrowing_eq]
  exact st
/-- a thing of a world lies in the heap -/
theorem vx_lt {D : va_G} {cl : List vw_C} {ws : va_W} {H1 : Heap} (h : va_P D cl ws H1) {k : Nat} {q : Nat × va_E} (hk : ws[k]? = some q) : q.1 < H1.size := (h k q hk).lt
end VXS
/-! ===== END ===== -/
/-! ===== BEGIN methods with a table of their own: called by a name, returning or throwing ===== -/
section VXH
/-! vx_backW, vx_callVX, vx_callSX, vx_callVW, vx_runVW, vx_runVX, vx_runSX, vx_ofWH follow the same proofs as their sisters above (Free/Laws.lean, Shelf42/LK1.lean); vx_outP calls Shelf42/NT130.lean (outThrough). -/
section
variable {l : Launch} {R : Room} {p : Program} {e : Env} {below : List Frame} {s : State} {sargs : Array Value} {y : MethodName} {len W9 : Nat}
theorem vx_backW {ws : List Cond} {rm : Room} {Pc : Array Value → State → Prop} {Qc : Array Value → State → Outcome → State → Prop} {XC : String → State → State → Prop} {mc ms : Nat} {free : Addr → Prop} {bytes : ByteArray} {maxL : Nat} {ret : Option FieldType} {hh : List (Nat × Nat × Nat × Nat)}
    (hM : vx_Met l y ws rm Pc Qc XC mc ms free) (hblind : FrameBlind Pc) (hrc : rm.cells = mc) (hrs : rm.slots = ms)
    (hframes : rm.frames + 1 ≤ R.frames) (hlocals : W9 + (maxL + 11) + rm.locals ≤ R.locals)
    (hws : ∀ w ∈ ws, ∀ a' U, s.WarmedH U.vm → w.before a' U = true) (hcode : Cond.codeWith y bytes maxL ret hh ∈ ws) (hinit : ∀ a' U, s.WarmedH U.vm → (Cond.initialized y.cls).before a' U = true) :
    vx_Back l R p e below s sargs y len W9 (PreOf R mc ms Pc) (PostOf Qc mc ms free) (vx_Post XC mc ms free) := by
  intro m meth c A g ig mk a X hg hsize hdg hW hn hp
  have h1 : (headSpec ws rm).pre.before a A.U = true := atoms_intro fun w hw => hws w hw _ _ X.warmed
  have h2 : (Cond.codeWith y bytes maxL ret hh).before a A.U = true := hws _ hcode _ _ X.warmed
  have h3 : (Cond.initialized y.cls).before a A.U = true := hinit _ _ X.warmed
  have h4 : A.cells + (headSpec ws rm).room.cells ≤ R.cells := by rw [show (headSpec ws rm).room.cells = mc from hrc]; exact hp.1
  have h5 : A.slots + (headSpec ws rm).room.slots ≤ R.slots := by rw [show (headSpec ws rm).room.slots = ms from hrs]; exact hp.2.1
  have hPc : Pc a (A.U.calling g mk a) := hblind _ _ _ _ hp.2.2
  obtain ⟨U, Ls, c0, s0⟩ := A
  dsimp only [Pt.U, Pt.locs, Pt.cells, Pt.slots] at h1 h2 h3 h4 h5 X hn hPc ⊢
  obtain ⟨m9, methY, cY, hn9, hmY, hcY, -, hlY, -⟩ := Cond.codeWith_spec h2
  cases Option.some.inj (hn9.symm.trans hn)
  obtain ⟨kY, hkY, -⟩ := className_of_methodNamed hn
  have hinitY : kY.init = .initialized := Cond.initialized_spec (findClass_of_methodNamed hn) hkY h3
  have h : At U g.method c below := by rw [hg]; exact X.here
  have hlocals9 : W9 + (maxL + 11) + (headSpec ws rm).room.locals ≤ R.locals := hlocals
  have happ : (headSpec ws rm).appliesLoose y e.platform (U.calling g mk a) = true :=
    Spec.appliesLoose_calling (g := g) h hdg hn hkY hinitY
      (X.room_calling (g := g) (R' := (headSpec ws rm).room) hsize hmY hcY hframes (by rw [hlY]; omega) h4 h5) h1
  obtain ⟨mid, hmid⟩ := h.above
  have hfr : (U.setTop g).frames = (.java g :: mid) ++ below := by rw [State.frames_setTop' g h.top, hmid]; rfl
  obtain ⟨o, s₂, hsteps, -, hend, hq⟩ := Steps.callFree hM p X.admits X.cas X.clock (acts := []) hfr happ hPc trivial
  have hq' : vx_Q Qc XC mc ms free a (U.calling g mk a) o s₂ := hq
  rw [State.frames_setTop' g h.top] at hend
  obtain ⟨g₀, hg0⟩ := Option.isSome_iff_exists.mp h.top
  obtain ⟨r, hr⟩ := State.topJava?_eq_some.mp hg0
  have hr' : (({ U with heap := s₂.heap, slotsUsed := s₂.slotsUsed } : State).setVm s₂.vm).frames = .java g₀ :: r := hr
  rcases hq' with ⟨hqc, L, hfe, hL⟩ | ⟨q, rfl, E, ce, L, hx, hce, hcv, hcl, hW₂, hsm, hL⟩
  · obtain ⟨⟨v, rfl⟩, hW₂, e2, q2, q3, q4, q5, q6⟩ := id hfe
    have e3 : s₂ = ({ (U.calling g mk a).setFrames s₂.frames with heap := s₂.heap, slotsUsed := s₂.slotsUsed } : State).setVm s₂.vm := by
      have : s₂ = ({ s₂ with vm := (U.calling g mk a).vm } : State).setVm s₂.vm := rfl
      rw [e2] at this
      exact this
    obtain ⟨c₂, i₂, len₂, hc₂, hd₂, hf₂⟩ := hend
    have hW' : U.WarmedH s₂.vm := hW₂
    have hcc : c₂ = c := by
      have h1 : s₂.code? g.method = U.code? g.method := by
        rw [State.code?_eq, State.code?_eq, hW'.alike.method?]
      exact Option.some.inj (hc₂.symm.trans (h1.trans h.code))
    subst hcc
    have hlen : len₂ = len := by rw [hdg] at hd₂; cases hd₂; rfl
    subst hlen
    have hs₂ : s₂ = (({ U with heap := s₂.heap, slotsUsed := s₂.slotsUsed } : State).setVm s₂.vm).setTop { g with pc := g.pc + len₂, stack := v.toList ++ g.stack } := by
      refine e3.trans ?_
      rw [hf₂, State.calling_eq h.top, State.setFrames_setFrames, State.setTop_of_frames _ hr', hr]
      rfl
    have hsame : U.sameButNew ({ U with heap := s₂.heap, slotsUsed := s₂.slotsUsed } : State) L mc ms := by
      refine ⟨?_, q2, q3, q4, q5, q6⟩
      obtain ⟨t, ht, -⟩ := State.frames_cons hr
      show ({ U with heap := s₂.heap, slotsUsed := s₂.slotsUsed } : State) = { U.setFrames U.frames with heap := s₂.heap, slotsUsed := s₂.slotsUsed }
      rw [State.setFrames_self ht]
    subst hg
    refine Or.inl ⟨v, ⟨(({ U with heap := s₂.heap, slotsUsed := s₂.slotsUsed } : State).setVm s₂.vm), Ls ++ L, c0 + mc, s0 + ms⟩,
      ⟨X.admits, X.cas, X.clock, X.frames, X.room, X.hears, X.method, X.code, (X.here.setHeapUsed s₂.heap s₂.slotsUsed).setVm hW'.alike, X.tail, State.WarmedH.trans X.warmed hW', X.limits, X.bytes, X.same.trans (hsame.setVm s.vm)⟩,
      ⟨g, mk, s₂, L, rfl, rfl, hqc, rfl, hL, rfl, rfl⟩, ?_⟩
    show Steps p.tables e below _ ((({ U with heap := s₂.heap, slotsUsed := s₂.slotsUsed } : State).setVm s₂.vm).setTop { g with pc := g.pc + len₂, stack := v.toList ++ g.stack })
    rw [← hs₂]
    exact hsteps
  · obtain ⟨e2, q2, q3, q4, q5, q6⟩ := id hsm
    have e3 : s₂ = ({ (U.calling g mk a).setFrames s₂.frames with heap := s₂.heap, slotsUsed := s₂.slotsUsed } : State).setVm s₂.vm := by
      have : s₂ = ({ s₂ with vm := (U.calling g mk a).vm } : State).setVm s₂.vm := rfl
      rw [e2] at this
      exact this
    have hf₂ : s₂.frames = .throwing q :: .java g :: U.frames.tail := hend
    have hW' : U.WarmedH s₂.vm := hW₂
    have hs₂ : s₂ = ((({ U with heap := s₂.heap, slotsUsed := s₂.slotsUsed } : State).setVm s₂.vm).setTop g).pushFrame (.throwing q) := by
      refine e3.trans ?_
      rw [hf₂, State.calling_eq h.top, State.setFrames_setFrames, State.pushFrame, State.frames_setTop _ hr', State.setTop_of_frames _ hr', State.setFrames_setFrames, hr]
      rfl
    have hsame : U.sameButNew ({ U with heap := s₂.heap, slotsUsed := s₂.slotsUsed } : State) L mc ms := by
      refine ⟨?_, q2, q3, q4, q5, q6⟩
      obtain ⟨t, ht, -⟩ := State.frames_cons hr
      show ({ U with heap := s₂.heap, slotsUsed := s₂.slotsUsed } : State) = { U.setFrames U.frames with heap := s₂.heap, slotsUsed := s₂.slotsUsed }
      rw [State.setFrames_self ht]
    subst hg
    refine Or.inr ⟨q, ⟨(({ U with heap := s₂.heap, slotsUsed := s₂.slotsUsed } : State).setVm s₂.vm), Ls ++ L, c0 + mc, s0 + ms⟩,
      ⟨X.admits, X.cas, X.clock, X.frames, X.room, X.hears, X.method, X.code, (X.here.setHeapUsed s₂.heap s₂.slotsUsed).setVm hW'.alike, X.tail, State.WarmedH.trans X.warmed hW', X.limits, X.bytes, X.same.trans (hsame.setVm s.vm)⟩,
      ⟨g, mk, s₂, L, E, ce, rfl, rfl, hx, hce, hcv, hcl, rfl, hL, rfl, rfl⟩, ?_⟩
    show Steps p.tables e below _ (((({ U with heap := s₂.heap, slotsUsed := s₂.slotsUsed } : State).setVm s₂.vm).setTop g).pushFrame (.throwing q))
    rw [← hs₂]
    exact hsteps
end
variable {p : Program} {l : Launch} {e : Env} {R : Room} {s : State} {m : MethodId} {args : Array Value} {below : List Frame} {meth : Method} {c : Code} {T : State} {H : Heap} {locs : List Loc} {cells slots : Nat}
theorem vx_callVX (X : Stand p l e R s m args below meth c T locs cells slots) (hexec : p.tables.exec = Jvm.exec) {own C : String} {index : Nat} {y : MethodName} {bytes : ByteArray} {maxL : Nat} {ret : Option FieldType} {hh : List (Nat × Nat × Nat × Nat)}
    (hown : s.vm.findClass own = some m.cls) (hlink : (Cond.methodLink own index y).before args s = true) (hinst : (Cond.instanceMethod y).before args s = true) (hsel : (Cond.selects C y y).before args s = true)
    (hcode : (Cond.codeWith y bytes maxL ret hh).before args s = true) (hy : y.cls ≠ "java/lang/invoke/MethodHandle" ∧ y.cls ≠ "java/lang/invoke/VarHandle")
    {W9 : Nat} {Pre : Pt → Array Value → Prop} {Post : Pt → Array Value → Option Value → Pt → Prop} {PostX : Pt → Array Value → Addr → Pt → Prop} (hK : vx_Back l R p e below s args y 3 W9 Pre Post PostX)
    {b : Addr} {cellB : Cell} (hcell : T.heap[b]? = some cellB) (hobj : cellB.vm.isStatics = false) (hcls : s.vm.findClass C = some cellB.cls)
    {g : JFrame} (hg : g.method = m) (hsize : g.locals.size = c.maxLocals) {argsL rest : List Value} (hlen : ∀ sig, parseMethodDescriptor y.desc = some sig → argsL.length = sig.parameters.length)
    (hstack : g.stack = argsL.reverse ++ .ref b :: rest) (hW : 2 * g.monitorRoom + (rest.map fun v => v.category).sum ≤ W9) (hdg : decode c.code g.pc = .ok (.invokevirtual index, 3))
    (hpre : ∀ vm₁, s.WarmedH vm₁ → Pre ⟨T.setVm vm₁, locs, cells, slots⟩ (Value.ref b :: argsL).toArray) :
    (∃ (v : Option Value) (vm₁ : Vm) (B : Pt), s.WarmedH vm₁ ∧ Stand p l e R s m args below meth c B.U B.locs B.cells B.slots ∧ Post ⟨T.setVm vm₁, locs, cells, slots⟩ (Value.ref b :: argsL).toArray v B ∧
      ∀ target, Steps p.tables e below (B.U.setTop { g with pc := g.pc + 3, stack := v.toList ++ rest }) target → Steps p.tables e below (T.setTop g) target) ∨
    (∃ (q : Addr) (vm₁ : Vm) (B : Pt), s.WarmedH vm₁ ∧ Stand p l e R s m args below meth c B.U B.locs B.cells B.slots ∧ PostX ⟨T.setVm vm₁, locs, cells, slots⟩ (Value.ref b :: argsL).toArray q B ∧
      Steps p.tables e below (T.setTop g) ((B.U.setTop { g with stack := rest }).pushFrame (.throwing q))) := by
  obtain ⟨mk, methM, hnamed, hmethM, hstM, habM⟩ := Cond.instanceMethod_spec hinst
  obtain ⟨m8, methM', cM, hn8, hmethM', -, -, -, -, -, -, hsigM⟩ := Cond.codeWith_spec hcode
  cases Option.some.inj (hn8.symm.trans hnamed)
  cases hmethM.symm.trans hmethM'
  obtain ⟨c2, r2, m2, q1, q2, q3, q4, kP, hkP, hkPi⟩ := Cond.selects_spec hsel
  cases hcls.symm.trans q1
  cases (State.methodFound?_of_named hnamed hy).symm.trans q2
  cases hnamed.symm.trans q3
  have hselP : selectMethod e.platform s.vm cellB.cls mk = .method mk := by rw [Launch.admits_selectMethod X.admits]; exact q4
  obtain ⟨vm₁, X₁, hstep₁⟩ := X.invokevirtual hexec hown hlink hnamed hmethM hstM hkP hkPi hy (a := b) (cell := cellB) hcell
    (fun z h => by rw [h] at hobj; cases hobj) hselP hmethM habM hkP hkPi (g := g) hg (argsL := argsL) (rest := rest) (hlen _ hsigM) hstack hdg
  rcases hK m meth c ⟨T.setVm vm₁, locs, cells, slots⟩ { g with stack := rest } (.invokevirtual index) mk (Value.ref b :: argsL).toArray X₁ hg hsize hdg hW (X₁.named hnamed) (hpre vm₁ X₁.warmed) with ⟨v, B, X', hpost, hsteps⟩ | ⟨q, B, X', hpost, hsteps⟩
  · exact Or.inl ⟨v, vm₁, B, X₁.warmed, X', hpost, fun target h => hstep₁ _ fun acts => by rw [doInvoke_state]; exact hsteps.trans h⟩
  · exact Or.inr ⟨q, vm₁, B, X₁.warmed, X', hpost, hstep₁ _ fun acts => by rw [doInvoke_state]; exact hsteps⟩
theorem vx_callSX (X : Stand p l e R s m args below meth c T locs cells slots) (hexec : p.tables.exec = Jvm.exec) {own : String} {index : Nat} {y : MethodName} {bytes : ByteArray} {maxL : Nat} {ret : Option FieldType} {hh : List (Nat × Nat × Nat × Nat)}
    (hown : s.vm.findClass own = some m.cls) (hlink : (Cond.methodLink own index y).before args s = true) (hstat : (Cond.static y).before args s = true) (hinit : (Cond.initialized y.cls).before args s = true)
    (hcode : (Cond.codeWith y bytes maxL ret hh).before args s = true) (hy : y.cls ≠ "java/lang/invoke/MethodHandle" ∧ y.cls ≠ "java/lang/invoke/VarHandle")
    {W9 : Nat} {Pre : Pt → Array Value → Prop} {Post : Pt → Array Value → Option Value → Pt → Prop} {PostX : Pt → Array Value → Addr → Pt → Prop} (hK : vx_Back l R p e below s args y 3 W9 Pre Post PostX)
    {g : JFrame} (hg : g.method = m) (hsize : g.locals.size = c.maxLocals) {argsL rest : List Value} (hlen : ∀ sig, parseMethodDescriptor y.desc = some sig → argsL.length = sig.parameters.length)
    (hstack : g.stack = argsL.reverse ++ rest) (hW : 2 * g.monitorRoom + (rest.map fun v => v.category).sum ≤ W9) (hdg : decode c.code g.pc = .ok (.invokestatic index, 3))
    (hpre : ∀ vm₁, s.WarmedH vm₁ → Pre ⟨T.setVm vm₁, locs, cells, slots⟩ argsL.toArray) :
    (∃ (v : Option Value) (vm₁ : Vm) (B : Pt), s.WarmedH vm₁ ∧ Stand p l e R s m args below meth c B.U B.locs B.cells B.slots ∧ Post ⟨T.setVm vm₁, locs, cells, slots⟩ argsL.toArray v B ∧
      ∀ target, Steps p.tables e below (B.U.setTop { g with pc := g.pc + 3, stack := v.toList ++ rest }) target → Steps p.tables e below (T.setTop g) target) ∨
    (∃ (q : Addr) (vm₁ : Vm) (B : Pt), s.WarmedH vm₁ ∧ Stand p l e R s m args below meth c B.U B.locs B.cells B.slots ∧ PostX ⟨T.setVm vm₁, locs, cells, slots⟩ argsL.toArray q B ∧
      Steps p.tables e below (T.setTop g) ((B.U.setTop { g with stack := rest }).pushFrame (.throwing q))) := by
  obtain ⟨mk, methM, cM, hnamed, hmethM, -, -, -, -, -, -, hsigM⟩ := Cond.codeWith_spec hcode
  have hstatic : methM.isStatic = true := Cond.static_spec hnamed hmethM hstat
  obtain ⟨kP, hkP, -⟩ := className_of_methodNamed hnamed
  have hinitP : kP.init = .initialized := Cond.initialized_spec (findClass_of_methodNamed hnamed) hkP hinit
  obtain ⟨vm₁, X₁, hstep₁⟩ := X.invokestatic hexec hown hlink hnamed hmethM hstatic hkP hinitP hy (g := g) hg (argsL := argsL) (rest := rest) (hlen _ hsigM) hstack hdg
  rcases hK m meth c ⟨T.setVm vm₁, locs, cells, slots⟩ { g with stack := rest } (.invokestatic index) mk argsL.toArray X₁ hg hsize hdg hW (X₁.named hnamed) (hpre vm₁ X₁.warmed) with ⟨v, B, X', hpost, hsteps⟩ | ⟨q, B, X', hpost, hsteps⟩
  · exact Or.inl ⟨v, vm₁, B, X₁.warmed, X', hpost, fun target h => hstep₁ _ fun acts => by rw [doInvoke_state]; exact hsteps.trans h⟩
  · exact Or.inr ⟨q, vm₁, B, X₁.warmed, X', hpost, hstep₁ _ fun acts => by rw [doInvoke_state]; exact hsteps⟩
theorem vx_callVW (X : Stand p l e R s m args below meth c T locs cells slots) (hexec : p.tables.exec = Jvm.exec) {own C : String} {index : Nat} {y : MethodName} {bytes : ByteArray} {maxL : Nat} {ret : Option FieldType} {hh : List (Nat × Nat × Nat × Nat)}
    (hown : s.vm.findClass own = some m.cls) (hlink : (Cond.methodLink own index y).before args s = true) (hinst : (Cond.instanceMethod y).before args s = true) (hsel : (Cond.selects C y y).before args s = true)
    (hcode : (Cond.codeWith y bytes maxL ret hh).before args s = true) (hy : y.cls ≠ "java/lang/invoke/MethodHandle" ∧ y.cls ≠ "java/lang/invoke/VarHandle")
    {W9 : Nat} {Pre : Pt → Array Value → Prop} {Post : Pt → Array Value → Option Value → Pt → Prop} (hK : Back l R p e below s args y 3 W9 Pre Post)
    {b : Addr} {cellB : Cell} (hcell : T.heap[b]? = some cellB) (hobj : cellB.vm.isStatics = false) (hcls : s.vm.findClass C = some cellB.cls)
    {g : JFrame} (hg : g.method = m) (hsize : g.locals.size = c.maxLocals) {argsL rest : List Value} (hlen : ∀ sig, parseMethodDescriptor y.desc = some sig → argsL.length = sig.parameters.length)
    (hstack : g.stack = argsL.reverse ++ .ref b :: rest) (hW : 2 * g.monitorRoom + (rest.map fun v => v.category).sum ≤ W9) (hdg : decode c.code g.pc = .ok (.invokevirtual index, 3))
    (hpre : ∀ vm₁, s.WarmedH vm₁ → Pre ⟨T.setVm vm₁, locs, cells, slots⟩ (Value.ref b :: argsL).toArray) :
    ∃ (v : Option Value) (vm₁ : Vm) (B : Pt), s.WarmedH vm₁ ∧ Stand p l e R s m args below meth c B.U B.locs B.cells B.slots ∧ Post ⟨T.setVm vm₁, locs, cells, slots⟩ (Value.ref b :: argsL).toArray v B ∧
      ∀ target, Steps p.tables e below (B.U.setTop { g with pc := g.pc + 3, stack := v.toList ++ rest }) target → Steps p.tables e below (T.setTop g) target := by
  obtain ⟨mk, methM, hnamed, hmethM, hstM, habM⟩ := Cond.instanceMethod_spec hinst
  obtain ⟨m8, methM', cM, hn8, hmethM', -, -, -, -, -, -, hsigM⟩ := Cond.codeWith_spec hcode
  cases Option.some.inj (hn8.symm.trans hnamed)
  cases hmethM.symm.trans hmethM'
  obtain ⟨c2, r2, m2, q1, q2, q3, q4, kP, hkP, hkPi⟩ := Cond.selects_spec hsel
  cases hcls.symm.trans q1
  cases (State.methodFound?_of_named hnamed hy).symm.trans q2
  cases hnamed.symm.trans q3
  have hselP : selectMethod e.platform s.vm cellB.cls mk = .method mk := by rw [Launch.admits_selectMethod X.admits]; exact q4
  obtain ⟨vm₁, X₁, hstep₁⟩ := X.invokevirtual hexec hown hlink hnamed hmethM hstM hkP hkPi hy (a := b) (cell := cellB) hcell
    (fun z h => by rw [h] at hobj; cases hobj) hselP hmethM habM hkP hkPi (g := g) hg (argsL := argsL) (rest := rest) (hlen _ hsigM) hstack hdg
  obtain ⟨v, B, X', hpost, hsteps⟩ := hK m meth c ⟨T.setVm vm₁, locs, cells, slots⟩ { g with stack := rest } (.invokevirtual index) mk (Value.ref b :: argsL).toArray X₁ hg hsize hdg hW (X₁.named hnamed) (hpre vm₁ X₁.warmed)
  exact ⟨v, vm₁, B, X₁.warmed, X', hpost, fun target h => hstep₁ _ fun acts => by rw [doInvoke_state]; exact hsteps.trans h⟩
abbrev vx_CVW (R : Room) (s : State) (args : Array Value) (own C : String) (index : Nat) (y : MethodName) (bytes : ByteArray) (maxL : Nat) (ret : Option FieldType) (hh : List (Nat × Nat × Nat × Nat)) (ws : List Cond) (rm : Room) (mc ms n : Nat) : Prop :=
  (rm.cells = mc ∧ rm.slots = ms ∧ rm.frames + 1 ≤ R.frames ∧ 8 + (maxL + 11) + rm.locals ≤ R.locals ∧ (∀ w ∈ ws, ∀ (a' : Array Value) (U : State), s.WarmedH U.vm → w.before a' U = true) ∧ Cond.codeWith y bytes maxL ret hh ∈ ws) ∧
  (Cond.codeWith y bytes maxL ret hh).before args s = true ∧ (Cond.initialized y.cls).before args s = true ∧ (y.cls ≠ "java/lang/invoke/MethodHandle" ∧ y.cls ≠ "java/lang/invoke/VarHandle") ∧
  (∀ sig, parseMethodDescriptor y.desc = some sig → n = sig.parameters.length) ∧ (Cond.methodLink own index y).before args s = true ∧ (Cond.instanceMethod y).before args s = true ∧ (Cond.selects C y y).before args s = true
theorem vx_cwVW {own C : String} {index maxL mc ms : Nat} {y : MethodName} {bytes : ByteArray} {ret : Option FieldType} {hh : List (Nat × Nat × Nat × Nat)} {Ts ws ws' : List Cond} {rm : Room} (n : Nat) (ht : ∀ w ∈ Ts, w.before args s = true) (hT : GoodIn Ts (wsV own index C y ws)) (hw : ws = Cond.codeWith y bytes maxL ret hh :: ws') (hrc : rm.cells = mc) (hrs : rm.slots = ms)
    (hd : y.cls = C ∧ y.cls ≠ "java/lang/invoke/MethodHandle" ∧ y.cls ≠ "java/lang/invoke/VarHandle" ∧ (parseMethodDescriptor y.desc).map (fun d => d.parameters.length) = some n) (hR : rm.frames + 1 ≤ R.frames ∧ 8 + (maxL + 11) + rm.locals ≤ R.locals) :
    vx_CVW R s args own C index y bytes maxL ret hh ws rm mc ms n := by
  obtain ⟨hC, hd⟩ := hd
  subst hC
  have ok : ∀ w ∈ wsV own index y.cls y ws, w.before args s = true := fun w h => ht w (hT w h).1
  have hG : GoodIn Ts ws := fun w h => hT w (by unfold wsV; exact List.mem_append_right _ h)
  have hc : Cond.codeWith y bytes maxL ret hh ∈ ws := by rw [hw]; exact List.mem_cons_self
  refine ⟨⟨hrc, hrs, hR.1, hR.2, pay_in ht hG, hc⟩, ht _ (hG _ hc).1, ok _ (by simp [wsV]), ⟨hd.1, hd.2.1⟩, fun sig h => ?_, ok _ (by simp [wsV]), ok _ (by simp [wsV]), ok _ (by simp [wsV])⟩
  have h2 := hd.2.2
  rw [h] at h2
  exact (Option.some.inj h2).symm
theorem vx_runVW {y : MethodName} {bytes cc : ByteArray} {maxL nL mc ms n index : Nat} {ret : Option FieldType} {hh : List (Nat × Nat × Nat × Nat)} {ws : List Cond} {rm : Room} {Pc : Array Value → State → Prop} {Qc : Array Value → State → Outcome → State → Prop} {free : Addr → Prop} {Ts : List Cond} {own C : String} {b : Addr} {As rest : List Value} {g : JFrame}
    (S : CallFix p m c cc nL s args Ts own) (hM : Met l y ws rm Pc Qc mc ms free) (cw : vx_CVW R s args own C index y bytes maxL ret hh ws rm mc ms n) (hp : PreV s H C b Pc As)
    (hg : g.method = m) (hn : As.length = n) (hsize : g.locals.size = nL) (hstack : g.stack = As.reverse ++ .ref b :: rest) (hW : 2 * g.monitorRoom + (rest.map fun v => v.category).sum ≤ 8) (hdg : decode cc g.pc = .ok (.invokevirtual index, 3)) (hf : cells + mc ≤ R.cells ∧ slots + ms ≤ R.slots) :
    va_Run p l e R s m args below meth c H locs cells slots mc ms g rest (Qc (Value.ref b :: As).toArray) free := by
  obtain ⟨⟨hrc, hrs, hfr, hlo, hws, hcw⟩, hcode, hini, hy, hlen, hl, hin, hse⟩ := cw
  have hK : Back l R p e below s args y 3 8 (PreOf R mc ms Pc) (PostOf Qc mc ms free) := va_backW (hh := hh) (bytes := bytes) (maxL := maxL) (ret := ret) hM hp.1 hrc hrs hfr hlo hws hcw (fun a' U hW => word_at hW (Or.inl (by first | rfl | simp [Cond.onTables, Cond.keeps, Cond.steady])) hini)
  obtain ⟨hx, hb, hml, ho, -⟩ := S
  obtain ⟨-, ⟨cellB, hcB, hoB, hclB⟩, hPc⟩ := hp
  intro T hT X
  obtain ⟨v, vm₁, ⟨U', l2, c2, s2⟩, hW₁, X', ⟨g', mk, t, L, e1, e2, hq, h1, hL, h2, h3⟩, st⟩ := vx_callVW X hx (C := C) (hh := hh) (bytes := bytes) (maxL := maxL) (ret := ret) ho hl hin hse hcode hy hK (by rw [hT]; exact hcB) hoB hclB hg (hsize.trans hml.symm) (argsL := As) (rest := rest) (fun sig h => hn.trans (hlen sig h)) hstack hW (by rw [hb]; exact hdg)
    (fun vm₁ hW₁ => ⟨hf.1, hf.2, hPc (T.setVm vm₁) hT hW₁⟩)
  dsimp only [Pt.U, Pt.locs, Pt.cells, Pt.slots] at X' e1 e2 h1 h2 h3 st
  subst h1; subst h2; subst h3
  exact ⟨v, (T.setVm vm₁).calling g' mk (Value.ref b :: As).toArray, t, U', L, hT, X', hL, e1, e2, hq, st⟩
section
variable {y : MethodName} {bytes cc : ByteArray} {maxL nL mc ms n index : Nat} {ret : Option FieldType} {ws : List Cond} {rm : Room} {Pc : Array Value → State → Prop} {Qc : Array Value → State → Outcome → State → Prop} {XC : String → State → State → Prop} {free : Addr → Prop} {Ts : List Cond} {own C : String} {b : Addr} {As rest : List Value} {g : JFrame}
theorem vx_runVX {hh : List (Nat × Nat × Nat × Nat)} (S : CallFix p m c cc nL s args Ts own) (hM : vx_Met l y ws rm Pc Qc XC mc ms free) (cw : vx_CVW R s args own C index y bytes maxL ret hh ws rm mc ms n) (hp : PreV s H C b Pc As)
    (hg : g.method = m) (hn : As.length = n) (hsize : g.locals.size = nL) (hstack : g.stack = As.reverse ++ .ref b :: rest) (hW : 2 * g.monitorRoom + (rest.map fun v => v.category).sum ≤ 8) (hdg : decode cc g.pc = .ok (.invokevirtual index, 3)) (hf : cells + mc ≤ R.cells ∧ slots + ms ≤ R.slots) :
    vx_Run p l e R s m args below meth c H locs cells slots mc ms g rest (Qc (Value.ref b :: As).toArray) XC free := by
  obtain ⟨⟨hrc, hrs, hfr, hlo, hws, hcw⟩, hcode, hini, hy, hlen, hl, hin, hse⟩ := cw
  have hK : vx_Back l R p e below s args y 3 8 (PreOf R mc ms Pc) (PostOf Qc mc ms free) (vx_Post XC mc ms free) := vx_backW (hh := hh) (bytes := bytes) (maxL := maxL) (ret := ret) hM hp.1 hrc hrs hfr hlo hws hcw (fun a' U hW => word_at hW (Or.inl (by first | rfl | simp [Cond.onTables, Cond.keeps, Cond.steady])) hini)
  obtain ⟨hx, hb, hml, ho, -⟩ := S
  obtain ⟨-, ⟨cellB, hcB, hoB, hclB⟩, hPc⟩ := hp
  intro T hT X
  rcases vx_callVX X hx (C := C) (hh := hh) (bytes := bytes) (maxL := maxL) (ret := ret) ho hl hin hse hcode hy hK (by rw [hT]; exact hcB) hoB hclB hg (hsize.trans hml.symm) (argsL := As) (rest := rest) (fun sig h => hn.trans (hlen sig h)) hstack hW (by rw [hb]; exact hdg)
    (fun vm₁ hW₁ => ⟨hf.1, hf.2, hPc (T.setVm vm₁) hT hW₁⟩) with ⟨v, vm₁, ⟨U', l2, c2, s2⟩, hW₁, X', ⟨g', mk, t, L, e1, e2, hq, h1, hL, h2, h3⟩, st⟩ | ⟨q, vm₁, ⟨U', l2, c2, s2⟩, hW₁, X', ⟨g', mk, t, L, E, ce, e1, e2, hq, hce, hcv, hcl, h1, hL, h2, h3⟩, st⟩
  · dsimp only [Pt.U, Pt.locs, Pt.cells, Pt.slots] at X' e1 e2 h1 h2 h3 st
    subst h1; subst h2; subst h3
    exact Or.inl ⟨v, (T.setVm vm₁).calling g' mk (Value.ref b :: As).toArray, t, U', L, hT, X', hL, e1, e2, hq, st⟩
  · dsimp only [Pt.U, Pt.locs, Pt.cells, Pt.slots] at X' e1 e2 h1 h2 h3 st hcl
    subst h1; subst h2; subst h3
    exact Or.inr ⟨q, (T.setVm vm₁).calling g' mk (Value.ref b :: As).toArray, t, U', L, E, ce, hT, X', hL, e1, e2, hq, hce, hcv, vx_cls hW₁ hcl, st⟩
theorem vx_runSX {hh : List (Nat × Nat × Nat × Nat)} (S : CallFix p m c cc nL s args Ts own) (hM : vx_Met l y ws rm Pc Qc XC mc ms free) (cw : vx_CSW R s args own index y bytes maxL ret hh ws rm mc ms n) (hp : PreS s H Pc As)
    (hg : g.method = m) (hn : As.length = n) (hsize : g.locals.size = nL) (hstack : g.stack = As.reverse ++ rest) (hW : 2 * g.monitorRoom + (rest.map fun v => v.category).sum ≤ 8) (hdg : decode cc g.pc = .ok (.invokestatic index, 3)) (hf : cells + mc ≤ R.cells ∧ slots + ms ≤ R.slots) :
    vx_Run p l e R s m args below meth c H locs cells slots mc ms g rest (Qc As.toArray) XC free := by
  obtain ⟨⟨hrc, hrs, hfr, hlo, hws, hcw⟩, hcode, hini, hy, hlen, hl, hstt⟩ := cw
  have hK : vx_Back l R p e below s args y 3 8 (PreOf R mc ms Pc) (PostOf Qc mc ms free) (vx_Post XC mc ms free) := vx_backW (hh := hh) (bytes := bytes) (maxL := maxL) (ret := ret) hM hp.1 hrc hrs hfr hlo hws hcw (fun a' U hW => word_at hW (Or.inl (by first | rfl | simp [Cond.onTables, Cond.keeps, Cond.steady])) hini)
  obtain ⟨hx, hb, hml, ho, -⟩ := S
  intro T hT X
  rcases vx_callSX X hx (hh := hh) (bytes := bytes) (maxL := maxL) (ret := ret) ho hl hstt hini hcode hy hK hg (hsize.trans hml.symm) (argsL := As) (rest := rest) (fun sig h => hn.trans (hlen sig h)) hstack hW (by rw [hb]; exact hdg)
    (fun vm₁ hW₁ => ⟨hf.1, hf.2, hp.2 (T.setVm vm₁) hT hW₁⟩) with ⟨v, vm₁, ⟨U', l2, c2, s2⟩, hW₁, X', ⟨g', mk, t, L, e1, e2, hq, h1, hL, h2, h3⟩, st⟩ | ⟨q, vm₁, ⟨U', l2, c2, s2⟩, hW₁, X', ⟨g', mk, t, L, E, ce, e1, e2, hq, hce, hcv, hcl, h1, hL, h2, h3⟩, st⟩
  · dsimp only [Pt.U, Pt.locs, Pt.cells, Pt.slots] at X' e1 e2 h1 h2 h3 st
    subst h1; subst h2; subst h3
    exact Or.inl ⟨v, (T.setVm vm₁).calling g' mk As.toArray, t, U', L, hT, X', hL, e1, e2, hq, st⟩
  · dsimp only [Pt.U, Pt.locs, Pt.cells, Pt.slots] at X' e1 e2 h1 h2 h3 st hcl
    subst h1; subst h2; subst h3
    exact Or.inr ⟨q, (T.setVm vm₁).calling g' mk As.toArray, t, U', L, E, ce, hT, X', hL, e1, e2, hq, hce, hcv, vx_cls hW₁ hcl, st⟩
end
end VXH
theorem vx_ofWH {l : Launch} {y : MethodName} {ws ws' : List Cond} {rm : Room} {Pc : Array Value → State → Prop} {Qc : Array Value → State → Outcome → State → Prop} {XC : String → State → State → Prop} {mc ms : Nat} {free : Addr → Prop} {cc : ByteArray} {maxL : Nat} {ret : Option FieldType} {hh : List (Nat × Nat × Nat × Nat)}
    (hy : plainName y.cls = true) (hw : ws = Cond.codeWith y cc maxL ret hh :: ws')
    (body : ∀ p e s m args below meth c s₁, BodyLoose p l y (headSpec ws rm) cc maxL ret e s m args below meth c s₁ → c.maxLocals = maxL → Pc args s →
      W p l e (headSpec ws rm).room s m args below meth c s.heap [] 0 0 (vx_MQ below Qc XC args s mc ms free) (entryFrame m args maxL)) : vx_Met l y ws rm Pc Qc XC mc ms free := by
  refine MetFree.of_bodyS (code := cc) (maxLocals := maxL) (ret := ret) hy ?_ ?_
  · intro args s m h hn
    obtain ⟨m9, meth, c, hn9, h1, h2, h3, h4, -, h5, h6, -⟩ := Cond.codeWith_spec (atoms_spec (ws := ws) h _ (by rw [hw]; exact List.mem_cons_self))
    cases hn.symm.trans hn9
    exact ⟨meth, c, h1, h2, h3, h4, h5, h6⟩
  · intro p e s m args below meth c s₁ B hml hP _
    have hh0 : s₁.heap = s.heap := by rw [B.state]; rfl
    obtain ⟨t, a1, o, b1, b2, b3⟩ := body p e s m args below meth c s₁ B hml hP s₁ hh0 (Stand.of_body B)
    exact ⟨t, o, a1, b1, b2, b3⟩
/-! ===== END ===== -/
end
section
/-! ===== BEGIN printed: names, fields, word lists, decode rows ===== -/
def RX0 : String := "ColdCreamery$Cellar"
def TX0 : u_T := fun k => match k with
  | 0 => ("ColdCreamery$Cellar", "stock", "[I", true)
  | 1 => ("ColdCreamery$Cellar", "heats", "[I", true)
  | 2 => ("ColdCreamery$Cellar", "churns", "[LColdCreamery$Churn;", true)
  | 3 => ("ColdCreamery$Cellar", "tubs", "[LColdCreamery$Tub;", true)
  | 4 => ("ColdCreamery$Cellar", "churnCount", "I", false)
  | 5 => ("ColdCreamery$Cellar", "tubCount", "I", false)
  | 6 => ("ColdCreamery$Cellar", "hour", "I", false)
  | 7 => ("ColdCreamery$Cellar", "coins", "I", false)
  | _ => ("ColdCreamery$Cellar", "sentAway", "I", false)
def tyX0 : Nat → FieldType := fun k => match k with
  | 0 => .array .int
  | 1 => .array .int
  | 2 => .array (.object "ColdCreamery$Churn")
  | 3 => .array (.object "ColdCreamery$Tub")
  | 4 => .int
  | 5 => .int
  | 6 => .int
  | 7 => .int
  | _ => .int
abbrev wsX00 : List Cond := u_ws RX0 TX0 9
theorem nmX0 : ∀ a, a < 9 → ∀ b, b < 9 → a ≠ b → (TX0 a).2.1 ≠ (TX0 b).2.1 := by decide +kernel
theorem tyX0_ok : ∀ k, k < 9 → parseFieldDescriptor (TX0 k).2.2.1 = some (tyX0 k) := by decide +kernel
abbrev cX0_init : ByteArray := prog_2_method_1_code
def yX0_init : MethodName := ⟨RX0, "<init>", "()V"⟩
abbrev cX0_number : ByteArray := prog_2_method_2_code
def yX0_number : MethodName := ⟨RX0, "number", "(I)I"⟩
abbrev cX0_heatAt : ByteArray := prog_2_method_3_code
def yX0_heatAt : MethodName := ⟨RX0, "heatAt", "(I)I"⟩
abbrev cX0_scoopsInTubs : ByteArray := prog_2_method_4_code
def yX0_scoopsInTubs : MethodName := ⟨RX0, "scoopsInTubs", "()I"⟩
abbrev cX0_soldScoops : ByteArray := prog_2_method_5_code
def yX0_soldScoops : MethodName := ⟨RX0, "soldScoops", "()I"⟩
abbrev cX0_sellingTub : ByteArray := prog_2_method_6_code
def yX0_sellingTub : MethodName := ⟨RX0, "sellingTub", "()I"⟩
abbrev cX0_runHours : ByteArray := prog_2_method_7_code
def yX0_runHours : MethodName := ⟨RX0, "runHours", "(I)V"⟩
abbrev cX0_runHour : ByteArray := prog_2_method_8_code
def yX0_runHour : MethodName := ⟨RX0, "runHour", "()V"⟩
abbrev cX0_servePeople : ByteArray := prog_2_method_9_code
def yX0_servePeople : MethodName := ⟨RX0, "servePeople", "(I)V"⟩
abbrev cX0_serveOne : ByteArray := prog_2_method_10_code
def yX0_serveOne : MethodName := ⟨RX0, "serveOne", "()V"⟩
abbrev cX0_hoursUntilFirm : ByteArray := prog_2_method_11_code
def yX0_hoursUntilFirm : MethodName := ⟨RX0, "hoursUntilFirm", "(LColdCreamery$Churn;)I"⟩
abbrev cX0_hoursUntilNoIce : ByteArray := prog_2_method_12_code
def yX0_hoursUntilNoIce : MethodName := ⟨RX0, "hoursUntilNoIce", "()I"⟩
abbrev cX0_copyFrom : ByteArray := prog_2_method_13_code
def yX0_copyFrom : MethodName := ⟨RX0, "copyFrom", "(LColdCreamery$Cellar;)V"⟩
def RX1 : String := "ColdCreamery$Churn"
def TX1 : u_T := fun k => match k with
  | 0 => ("ColdCreamery$Churn", "cold", "I", false)
  | 1 => ("ColdCreamery$Churn", "cream", "I", false)
  | _ => ("ColdCreamery$Churn", "firm", "I", false)
def tyX1 : Nat → FieldType := fun k => match k with
  | 0 => .int
  | 1 => .int
  | _ => .int
abbrev wsX10 : List Cond := u_ws RX1 TX1 3
theorem nmX1 : ∀ a, a < 3 → ∀ b, b < 3 → a ≠ b → (TX1 a).2.1 ≠ (TX1 b).2.1 := by decide +kernel
theorem tyX1_ok : ∀ k, k < 3 → parseFieldDescriptor (TX1 k).2.2.1 = some (tyX1 k) := by decide +kernel
abbrev cX1_init : ByteArray := prog_3_method_1_code
def yX1_init : MethodName := ⟨RX1, "<init>", "()V"⟩
abbrev cX1_number : ByteArray := prog_3_method_2_code
def yX1_number : MethodName := ⟨RX1, "number", "(I)I"⟩
abbrev cX1_add : ByteArray := prog_3_method_3_code
def yX1_add : MethodName := ⟨RX1, "add", "(I)V"⟩
abbrev cX1_turn : ByteArray := prog_3_method_4_code
def yX1_turn : MethodName := ⟨RX1, "turn", "(I)V"⟩
abbrev cX1_copyFrom : ByteArray := prog_3_method_5_code
def yX1_copyFrom : MethodName := ⟨RX1, "copyFrom", "(LColdCreamery$Churn;)V"⟩
def RX2 : String := "ColdCreamery$Tub"
def TX2 : u_T := fun k => match k with
  | 0 => ("ColdCreamery$Tub", "scoops", "I", false)
  | 1 => ("ColdCreamery$Tub", "soft", "I", false)
  | _ => ("ColdCreamery$Tub", "sold", "I", false)
def tyX2 : Nat → FieldType := fun k => match k with
  | 0 => .int
  | 1 => .int
  | _ => .int
abbrev wsX20 : List Cond := u_ws RX2 TX2 3
theorem nmX2 : ∀ a, a < 3 → ∀ b, b < 3 → a ≠ b → (TX2 a).2.1 ≠ (TX2 b).2.1 := by decide +kernel
theorem tyX2_ok : ∀ k, k < 3 → parseFieldDescriptor (TX2 k).2.2.1 = some (tyX2 k) := by decide +kernel
abbrev cX2_init : ByteArray := prog_4_method_1_code
def yX2_init : MethodName := ⟨RX2, "<init>", "()V"⟩
abbrev cX2_number : ByteArray := prog_4_method_2_code
def yX2_number : MethodName := ⟨RX2, "number", "(I)I"⟩
abbrev cX2_take : ByteArray := prog_4_method_3_code
def yX2_take : MethodName := ⟨RX2, "take", "(II)V"⟩
abbrev cX2_standInHeat : ByteArray := prog_4_method_4_code
def yX2_standInHeat : MethodName := ⟨RX2, "standInHeat", "(II)V"⟩
abbrev cX2_sellScoop : ByteArray := prog_4_method_5_code
def yX2_sellScoop : MethodName := ⟨RX2, "sellScoop", "()I"⟩
abbrev cX2_forgetSoftnessIfEmpty : ByteArray := prog_4_method_6_code
def yX2_forgetSoftnessIfEmpty : MethodName := ⟨RX2, "forgetSoftnessIfEmpty", "()V"⟩
abbrev cX2_copyFrom : ByteArray := prog_4_method_7_code
def yX2_copyFrom : MethodName := ⟨RX2, "copyFrom", "(LColdCreamery$Tub;)V"⟩
def RX3 : String := "ColdCreamery"
def TX3 : u_T := fun k => match k with
  | 0 => ("ColdCreamery", "cellar", "LColdCreamery$Cellar;", true)
  | _ => ("ColdCreamery", "foreseen", "LColdCreamery$Cellar;", true)
def tyX3 : Nat → FieldType := fun k => match k with
  | 0 => .object "ColdCreamery$Cellar"
  | _ => .object "ColdCreamery$Cellar"
abbrev wsX30 : List Cond := u_ws RX3 TX3 2
theorem nmX3 : ∀ a, a < 2 → ∀ b, b < 2 → a ≠ b → (TX3 a).2.1 ≠ (TX3 b).2.1 := by decide +kernel
theorem tyX3_ok : ∀ k, k < 2 → parseFieldDescriptor (TX3 k).2.2.1 = some (tyX3 k) := by decide +kernel
abbrev cX3_init : ByteArray := prog_1_method_1_code
def yX3_init : MethodName := ⟨RX3, "<init>", "()V"⟩
abbrev cX3_bring : ByteArray := prog_1_method_2_code
def yX3_bring : MethodName := ⟨RX3, "bring", "(II)I"⟩
abbrev cX3_setHeat : ByteArray := prog_1_method_3_code
def yX3_setHeat : MethodName := ⟨RX3, "setHeat", "(II)I"⟩
abbrev cX3_churn : ByteArray := prog_1_method_4_code
def yX3_churn : MethodName := ⟨RX3, "churn", "()I"⟩
abbrev cX3_tub : ByteArray := prog_1_method_5_code
def yX3_tub : MethodName := ⟨RX3, "tub", "()I"⟩
abbrev cX3_pack : ByteArray := prog_1_method_6_code
def yX3_pack : MethodName := ⟨RX3, "pack", "(III)I"⟩
abbrev cX3_pour : ByteArray := prog_1_method_7_code
def yX3_pour : MethodName := ⟨RX3, "pour", "(II)I"⟩
abbrev cX3_scoop : ByteArray := prog_1_method_8_code
def yX3_scoop : MethodName := ⟨RX3, "scoop", "(II)I"⟩
abbrev cX3_told : ByteArray := prog_1_method_9_code
def yX3_told : MethodName := ⟨RX3, "told", "(II)I"⟩
abbrev cX3_about : ByteArray := prog_1_method_10_code
def yX3_about : MethodName := ⟨RX3, "about", "(II)I"⟩
abbrev cX3_count : ByteArray := prog_1_method_11_code
def yX3_count : MethodName := ⟨RX3, "count", "(I)I"⟩
abbrev cX3_next : ByteArray := prog_1_method_12_code
def yX3_next : MethodName := ⟨RX3, "next", "()I"⟩
abbrev cX3_pass : ByteArray := prog_1_method_13_code
def yX3_pass : MethodName := ⟨RX3, "pass", "(I)I"⟩
abbrev cX3_done : ByteArray := prog_1_method_14_code
def yX3_done : MethodName := ⟨RX3, "done", "(I)I"⟩
abbrev cX3_foresee : ByteArray := prog_1_method_15_code
def yX3_foresee : MethodName := ⟨RX3, "foresee", "(II)I"⟩
abbrev cX3_lasts : ByteArray := prog_1_method_16_code
def yX3_lasts : MethodName := ⟨RX3, "lasts", "()I"⟩
abbrev cX3_salt : ByteArray := prog_1_method_17_code
def yX3_salt : MethodName := ⟨RX3, "salt", "(II)I"⟩
abbrev cX3_share : ByteArray := prog_1_method_18_code
def yX3_share : MethodName := ⟨RX3, "share", "()D"⟩
abbrev cX3_digest : ByteArray := prog_1_method_19_code
def yX3_digest : MethodName := ⟨RX3, "digest", "()J"⟩
abbrev cX3_existingChurn : ByteArray := prog_1_method_20_code
def yX3_existingChurn : MethodName := ⟨RX3, "existingChurn", "(I)LColdCreamery$Churn;"⟩
abbrev cX3_existingTub : ByteArray := prog_1_method_21_code
def yX3_existingTub : MethodName := ⟨RX3, "existingTub", "(I)LColdCreamery$Tub;"⟩
abbrev cX3_checkPacked : ByteArray := prog_1_method_22_code
def yX3_checkPacked : MethodName := ⟨RX3, "checkPacked", "(I)V"⟩
abbrev cX3_checkHours : ByteArray := prog_1_method_23_code
def yX3_checkHours : MethodName := ⟨RX3, "checkHours", "(I)V"⟩
abbrev cX3_coldOfIce : ByteArray := prog_1_method_24_code
def yX3_coldOfIce : MethodName := ⟨RX3, "coldOfIce", "(I)I"⟩
abbrev cX3_coldWithBrine : ByteArray := prog_1_method_25_code
def yX3_coldWithBrine : MethodName := ⟨RX3, "coldWithBrine", "(III)I"⟩
abbrev cX3_firmAfterHour : ByteArray := prog_1_method_26_code
def yX3_firmAfterHour : MethodName := ⟨RX3, "firmAfterHour", "(II)I"⟩
abbrev cX3_coldAfterHour : ByteArray := prog_1_method_27_code
def yX3_coldAfterHour : MethodName := ⟨RX3, "coldAfterHour", "(II)I"⟩
abbrev cX3_iceAfterHour : ByteArray := prog_1_method_28_code
def yX3_iceAfterHour : MethodName := ⟨RX3, "iceAfterHour", "(III)I"⟩
abbrev cX3_mixed : ByteArray := prog_1_method_29_code
def yX3_mixed : MethodName := ⟨RX3, "mixed", "(JJ)J"⟩
def RX4 : String := "ColdCreameryModel"
def TX4 : u_T := fun k => match k with
  | 0 => ("ColdCreameryModel", "thrown", "I", false)
  | 1 => ("ColdCreameryModel", "churns", "I", false)
  | 2 => ("ColdCreameryModel", "tubs", "I", false)
  | 3 => ("ColdCreameryModel", "s", "[I", true)
  | 4 => ("ColdCreameryModel", "kept", "[I", true)
  | _ => ("ColdCreameryModel", "heat", "[I", true)
def tyX4 : Nat → FieldType := fun k => match k with
  | 0 => .int
  | 1 => .int
  | 2 => .int
  | 3 => .array .int
  | 4 => .array .int
  | _ => .array .int
abbrev wsX40 : List Cond := u_ws RX4 TX4 6
theorem nmX4 : ∀ a, a < 6 → ∀ b, b < 6 → a ≠ b → (TX4 a).2.1 ≠ (TX4 b).2.1 := by decide +kernel
theorem tyX4_ok : ∀ k, k < 6 → parseFieldDescriptor (TX4 k).2.2.1 = some (tyX4 k) := by decide +kernel
abbrev cX4_init : ByteArray := prog_6_method_1_code
def yX4_init : MethodName := ⟨RX4, "<init>", "()V"⟩
abbrev cX4_thrown : ByteArray := prog_6_method_2_code
def yX4_thrown : MethodName := ⟨RX4, "thrown", "()I"⟩
abbrev cX4_no : ByteArray := prog_6_method_3_code
def yX4_no : MethodName := ⟨RX4, "no", "(I)I"⟩
abbrev cX4_isIn : ByteArray := prog_6_method_4_code
def yX4_isIn : MethodName := ⟨RX4, "isIn", "(III)Z"⟩
abbrev cX4_isChurn : ByteArray := prog_6_method_5_code
def yX4_isChurn : MethodName := ⟨RX4, "isChurn", "(I)Z"⟩
abbrev cX4_isTub : ByteArray := prog_6_method_6_code
def yX4_isTub : MethodName := ⟨RX4, "isTub", "(I)Z"⟩
abbrev cX4_ch : ByteArray := prog_6_method_7_code
def yX4_ch : MethodName := ⟨RX4, "ch", "(II)I"⟩
abbrev cX4_tu : ByteArray := prog_6_method_8_code
def yX4_tu : MethodName := ⟨RX4, "tu", "(II)I"⟩
abbrev cX4_setChurn : ByteArray := prog_6_method_9_code
def yX4_setChurn : MethodName := ⟨RX4, "setChurn", "(III)V"⟩
abbrev cX4_setTub : ByteArray := prog_6_method_10_code
def yX4_setTub : MethodName := ⟨RX4, "setTub", "(III)V"⟩
abbrev cX4_bring : ByteArray := prog_6_method_11_code
def yX4_bring : MethodName := ⟨RX4, "bring", "(II)I"⟩
abbrev cX4_setHeat : ByteArray := prog_6_method_12_code
def yX4_setHeat : MethodName := ⟨RX4, "setHeat", "(II)I"⟩
abbrev cX4_heatNow : ByteArray := prog_6_method_13_code
def yX4_heatNow : MethodName := ⟨RX4, "heatNow", "()I"⟩
abbrev cX4_churn : ByteArray := prog_6_method_14_code
def yX4_churn : MethodName := ⟨RX4, "churn", "()I"⟩
abbrev cX4_tub : ByteArray := prog_6_method_15_code
def yX4_tub : MethodName := ⟨RX4, "tub", "()I"⟩
abbrev cX4_packed : ByteArray := prog_6_method_16_code
def yX4_packed : MethodName := ⟨RX4, "packed", "(III)I"⟩
abbrev cX4_pack : ByteArray := prog_6_method_17_code
def yX4_pack : MethodName := ⟨RX4, "pack", "(III)I"⟩
abbrev cX4_pour : ByteArray := prog_6_method_18_code
def yX4_pour : MethodName := ⟨RX4, "pour", "(II)I"⟩
abbrev cX4_scoop : ByteArray := prog_6_method_19_code
def yX4_scoop : MethodName := ⟨RX4, "scoop", "(II)I"⟩
abbrev cX4_told : ByteArray := prog_6_method_20_code
def yX4_told : MethodName := ⟨RX4, "told", "(II)I"⟩
abbrev cX4_about : ByteArray := prog_6_method_21_code
def yX4_about : MethodName := ⟨RX4, "about", "(II)I"⟩
abbrev cX4_sum : ByteArray := prog_6_method_22_code
def yX4_sum : MethodName := ⟨RX4, "sum", "(I)I"⟩
abbrev cX4_counted : ByteArray := prog_6_method_23_code
def yX4_counted : MethodName := ⟨RX4, "counted", "(I)I"⟩
abbrev cX4_count : ByteArray := prog_6_method_24_code
def yX4_count : MethodName := ⟨RX4, "count", "(I)I"⟩
abbrev cX4_nextTub : ByteArray := prog_6_method_25_code
def yX4_nextTub : MethodName := ⟨RX4, "nextTub", "()I"⟩
abbrev cX4_next : ByteArray := prog_6_method_26_code
def yX4_next : MethodName := ⟨RX4, "next", "()I"⟩
abbrev cX4_firmUp : ByteArray := prog_6_method_27_code
def yX4_firmUp : MethodName := ⟨RX4, "firmUp", "(II)V"⟩
abbrev cX4_soften : ByteArray := prog_6_method_28_code
def yX4_soften : MethodName := ⟨RX4, "soften", "(II)V"⟩
abbrev cX4_sell : ByteArray := prog_6_method_29_code
def yX4_sell : MethodName := ⟨RX4, "sell", "()V"⟩
abbrev cX4_hourOn : ByteArray := prog_6_method_30_code
def yX4_hourOn : MethodName := ⟨RX4, "hourOn", "()V"⟩
abbrev cX4_pass : ByteArray := prog_6_method_31_code
def yX4_pass : MethodName := ⟨RX4, "pass", "(I)I"⟩
abbrev cX4_keep : ByteArray := prog_6_method_32_code
def yX4_keep : MethodName := ⟨RX4, "keep", "()V"⟩
abbrev cX4_bringBack : ByteArray := prog_6_method_33_code
def yX4_bringBack : MethodName := ⟨RX4, "bringBack", "()V"⟩
abbrev cX4_done : ByteArray := prog_6_method_34_code
def yX4_done : MethodName := ⟨RX4, "done", "(I)I"⟩
abbrev cX4_foresee : ByteArray := prog_6_method_35_code
def yX4_foresee : MethodName := ⟨RX4, "foresee", "(II)I"⟩
abbrev cX4_lasts : ByteArray := prog_6_method_36_code
def yX4_lasts : MethodName := ⟨RX4, "lasts", "()I"⟩
abbrev cX4_salt : ByteArray := prog_6_method_37_code
def yX4_salt : MethodName := ⟨RX4, "salt", "(II)I"⟩
abbrev cX4_share : ByteArray := prog_6_method_38_code
def yX4_share : MethodName := ⟨RX4, "share", "()D"⟩
abbrev cX4_digest : ByteArray := prog_6_method_39_code
def yX4_digest : MethodName := ⟨RX4, "digest", "()J"⟩
def RJx145de : String := "java/io/Serializable"
def TJx145de : u_T := fun k => match k with
  | _ => ("", "", "", false)
def tyJx145de : Nat → FieldType := fun k => match k with
  | _ => .int
abbrev wsJx145de0 : List Cond := u_ws RJx145de TJx145de 0
theorem nmJx145de : ∀ a, a < 0 → ∀ b, b < 0 → a ≠ b → (TJx145de a).2.1 ≠ (TJx145de b).2.1 := by decide +kernel
theorem tyJx145de_ok : ∀ k, k < 0 → parseFieldDescriptor (TJx145de k).2.2.1 = some (tyJx145de k) := by decide +kernel
def RJ9 : String := "java/lang/Math"
def TJ9 : u_T := fun k => match k with
  | _ => ("", "", "", false)
def tyJ9 : Nat → FieldType := fun k => match k with
  | _ => .int
abbrev wsJ90 : List Cond := u_ws RJ9 TJ9 0
theorem nmJ9 : ∀ a, a < 0 → ∀ b, b < 0 → a ≠ b → (TJ9 a).2.1 ≠ (TJ9 b).2.1 := by decide +kernel
theorem tyJ9_ok : ∀ k, k < 0 → parseFieldDescriptor (TJ9 k).2.2.1 = some (tyJ9 k) := by decide +kernel
abbrev cJ9_floorMod_7cf53 : ByteArray := prog_11_method_50_code
def yJ9_floorMod_7cf53 : MethodName := ⟨RJ9, "floorMod", "(II)I"⟩
abbrev cJ9_max_7cf53 : ByteArray := prog_11_method_65_code
def yJ9_max_7cf53 : MethodName := ⟨RJ9, "max", "(II)I"⟩
abbrev cJ9_min_7cf53 : ByteArray := prog_11_method_69_code
def yJ9_min_7cf53 : MethodName := ⟨RJ9, "min", "(II)I"⟩
def RJ0 : String := "java/lang/String"
def TJ0 : u_T := fun k => match k with
  | _ => ("", "", "", false)
def tyJ0 : Nat → FieldType := fun k => match k with
  | _ => .int
abbrev wsJ00 : List Cond := u_ws RJ0 TJ0 0
theorem nmJ0 : ∀ a, a < 0 → ∀ b, b < 0 → a ≠ b → (TJ0 a).2.1 ≠ (TJ0 b).2.1 := by decide +kernel
theorem tyJ0_ok : ∀ k, k < 0 → parseFieldDescriptor (TJ0 k).2.2.1 = some (tyJ0 k) := by decide +kernel
def RJ10 : String := "java/lang/System"
def TJ10 : u_T := fun k => match k with
  | _ => ("", "", "", false)
def tyJ10 : Nat → FieldType := fun k => match k with
  | _ => .int
abbrev wsJ100 : List Cond := u_ws RJ10 TJ10 0
theorem nmJ10 : ∀ a, a < 0 → ∀ b, b < 0 → a ≠ b → (TJ10 a).2.1 ≠ (TJ10 b).2.1 := by decide +kernel
theorem tyJ10_ok : ∀ k, k < 0 → parseFieldDescriptor (TJ10 k).2.2.1 = some (tyJ10 k) := by decide +kernel
def RJ7 : String := "java/util/Arrays"
def TJ7 : u_T := fun k => match k with
  | _ => ("", "", "", false)
def tyJ7 : Nat → FieldType := fun k => match k with
  | _ => .int
abbrev wsJ70 : List Cond := u_ws RJ7 TJ7 0
theorem nmJ7 : ∀ a, a < 0 → ∀ b, b < 0 → a ≠ b → (TJ7 a).2.1 ≠ (TJ7 b).2.1 := by decide +kernel
theorem tyJ7_ok : ∀ k, k < 0 → parseFieldDescriptor (TJ7 k).2.2.1 = some (tyJ7 k) := by decide +kernel
abbrev cJ7_fill_53178 : ByteArray := prog_16_method_103_code
def yJ7_fill_53178 : MethodName := ⟨RJ7, "fill", "([II)V"⟩
def RL : String := "ColdCreameryLaw"
abbrev cL_bring : ByteArray := method_3_code
def yL_bring : MethodName := ⟨RL, "bring", "(LColdCreamery;II[J)I"⟩
abbrev cL_setHeat : ByteArray := method_4_code
def yL_setHeat : MethodName := ⟨RL, "setHeat", "(LColdCreamery;II[J)I"⟩
abbrev cL_churn : ByteArray := method_5_code
def yL_churn : MethodName := ⟨RL, "churn", "(LColdCreamery;[J)I"⟩
abbrev cL_tub : ByteArray := method_6_code
def yL_tub : MethodName := ⟨RL, "tub", "(LColdCreamery;[J)I"⟩
abbrev cL_pack : ByteArray := method_7_code
def yL_pack : MethodName := ⟨RL, "pack", "(LColdCreamery;III[J)I"⟩
abbrev cL_pour : ByteArray := method_8_code
def yL_pour : MethodName := ⟨RL, "pour", "(LColdCreamery;II[J)I"⟩
abbrev cL_scoop : ByteArray := method_9_code
def yL_scoop : MethodName := ⟨RL, "scoop", "(LColdCreamery;II[J)I"⟩
abbrev cL_told : ByteArray := method_10_code
def yL_told : MethodName := ⟨RL, "told", "(LColdCreamery;II[J)I"⟩
abbrev cL_about : ByteArray := method_11_code
def yL_about : MethodName := ⟨RL, "about", "(LColdCreamery;II[J)I"⟩
abbrev cL_count : ByteArray := method_12_code
def yL_count : MethodName := ⟨RL, "count", "(LColdCreamery;I[J)I"⟩
abbrev cL_pass : ByteArray := method_13_code
def yL_pass : MethodName := ⟨RL, "pass", "(LColdCreamery;I[J)I"⟩
abbrev cL_done : ByteArray := method_14_code
def yL_done : MethodName := ⟨RL, "done", "(LColdCreamery;I[J)I"⟩
abbrev cL_foresee : ByteArray := method_15_code
def yL_foresee : MethodName := ⟨RL, "foresee", "(LColdCreamery;II[J)I"⟩
abbrev cL_salt : ByteArray := method_16_code
def yL_salt : MethodName := ⟨RL, "salt", "(LColdCreamery;II[J)I"⟩
abbrev cL_law : ByteArray := code
def yL_law : MethodName := ⟨RL, "law", "([I)Z"⟩
def wsJ7_fill_53178 : List Cond := .code yJ7_fill_53178 cJ7_fill_53178 4 none :: ([])
def wsX1_init : List Cond := .code yX1_init cX1_init 1 none :: ([.methodLink RX1 1 objectInit, .instanceMethod objectInit, .code objectInit ⟨#[0xb1]⟩ 1 none])
def wsX2_init : List Cond := .code yX2_init cX2_init 1 none :: ([.methodLink RX2 3 objectInit, .instanceMethod objectInit, .code objectInit ⟨#[0xb1]⟩ 1 none])
def wsX0_init : List Cond := .code yX0_init cX0_init 2 none :: ([.methodLink RX0 3 objectInit, .instanceMethod objectInit, .code objectInit ⟨#[0xb1]⟩ 1 none, .arrayClass .int, .fieldLink RX0 13 "ColdCreamery$Cellar" "stock" "[I", .fieldLink RX0 18 "ColdCreamery$Cellar" "heats" "[I", .classLink RX0 21 RX1, .fieldLink RX0 23 "ColdCreamery$Cellar" "churns" "[LColdCreamery$Churn;", .classLink RX0 27 RX2, .fieldLink RX0 29 "ColdCreamery$Cellar" "tubs" "[LColdCreamery$Tub;", .instantiable RX1 3, .initialized RX1, .instantiable RX2 3, .initialized RX2, .methodLink RX0 33 yJ7_fill_53178, .static yJ7_fill_53178, .initialized RJ7, .code yJ7_fill_53178 cJ7_fill_53178 4 none, .instanceMethod yX1_init, .code yX1_init cX1_init 1 none, .methodLink RX1 1 objectInit, .instanceMethod yX2_init, .code yX2_init cX2_init 1 none, .methodLink RX2 3 objectInit] ++ wsX00 ++ wsX10 ++ wsX20)
def wsJ9_floorMod_7cf53 : List Cond := .code yJ9_floorMod_7cf53 cJ9_floorMod_7cf53 3 (some .int) :: ([])
def wsX0_heatAt : List Cond := .code yX0_heatAt cX0_heatAt 2 (some .int) :: ([.fieldLink RX0 18 "ColdCreamery$Cellar" "heats" "[I", .methodLink RX0 62 yJ9_floorMod_7cf53, .static yJ9_floorMod_7cf53, .initialized RJ9, .code yJ9_floorMod_7cf53 cJ9_floorMod_7cf53 3 (some .int)] ++ wsX00)
def wsX0_scoopsInTubs : List Cond := .code yX0_scoopsInTubs cX0_scoopsInTubs 3 (some .int) :: ([.fieldLink RX0 68 "ColdCreamery$Cellar" "tubCount" "I", .fieldLink RX0 29 "ColdCreamery$Cellar" "tubs" "[LColdCreamery$Tub;"] ++ wsX00 ++ wsX20)
def wsX0_soldScoops : List Cond := .code yX0_soldScoops cX0_soldScoops 3 (some .int) :: ([.fieldLink RX0 68 "ColdCreamery$Cellar" "tubCount" "I", .fieldLink RX0 29 "ColdCreamery$Cellar" "tubs" "[LColdCreamery$Tub;"] ++ wsX00 ++ wsX20)
def wsX0_number : List Cond := .code yX0_number cX0_number 2 (some .int) :: ([.fieldLink RX0 41 "ColdCreamery$Cellar" "hour" "I", .fieldLink RX0 13 "ColdCreamery$Cellar" "stock" "[I", .fieldLink RX0 49 "ColdCreamery$Cellar" "coins" "I", .fieldLink RX0 59 "ColdCreamery$Cellar" "sentAway" "I", .methodLink RX0 45 yX0_heatAt, .instanceMethod yX0_heatAt, .selects RX0 yX0_heatAt yX0_heatAt, .initialized RX0, .code yX0_heatAt cX0_heatAt 2 (some .int), .fieldLink RX0 18 "ColdCreamery$Cellar" "heats" "[I", .methodLink RX0 62 yJ9_floorMod_7cf53, .static yJ9_floorMod_7cf53, .initialized RJ9, .code yJ9_floorMod_7cf53 cJ9_floorMod_7cf53 3 (some .int), .methodLink RX0 52 yX0_scoopsInTubs, .instanceMethod yX0_scoopsInTubs, .selects RX0 yX0_scoopsInTubs yX0_scoopsInTubs, .code yX0_scoopsInTubs cX0_scoopsInTubs 3 (some .int), .fieldLink RX0 68 "ColdCreamery$Cellar" "tubCount" "I", .fieldLink RX0 29 "ColdCreamery$Cellar" "tubs" "[LColdCreamery$Tub;", .methodLink RX0 56 yX0_soldScoops, .instanceMethod yX0_soldScoops, .selects RX0 yX0_soldScoops yX0_soldScoops, .code yX0_soldScoops cX0_soldScoops 3 (some .int)] ++ wsX00 ++ wsX20)
def wsX0_sellingTub : List Cond := .code yX0_sellingTub cX0_sellingTub 4 (some .int) :: ([.fieldLink RX0 68 "ColdCreamery$Cellar" "tubCount" "I", .fieldLink RX0 29 "ColdCreamery$Cellar" "tubs" "[LColdCreamery$Tub;"] ++ wsX00 ++ wsX20)
def wsX3_firmAfterHour : List Cond := .code yX3_firmAfterHour cX3_firmAfterHour 2 (some .int) :: ([.methodLink RX3 38 Lib.Math.min.name, .static Lib.Math.min.name, .initialized "java/lang/Math", .code Lib.Math.min.name Lib.Math.min.code 2 (some .int)])
def wsX3_coldAfterHour : List Cond := .code yX3_coldAfterHour cX3_coldAfterHour 2 (some .int) :: ([.methodLink RX3 153 Lib.Math.max.name, .static Lib.Math.max.name, .initialized "java/lang/Math", .code Lib.Math.max.name Lib.Math.max.code 2 (some .int)])
def wsX1_turn : List Cond := .code yX1_turn cX1_turn 2 none :: ([.fieldLink RX1 13 "ColdCreamery$Churn" "cream" "I", .fieldLink RX1 16 "ColdCreamery$Churn" "firm" "I", .fieldLink RX1 7 "ColdCreamery$Churn" "cold" "I", .static yX3_firmAfterHour, .initialized RX3, .code yX3_firmAfterHour cX3_firmAfterHour 2 (some .int), .methodLink RX3 38 Lib.Math.min.name, .static Lib.Math.min.name, .initialized "java/lang/Math", .code Lib.Math.min.name Lib.Math.min.code 2 (some .int), .static yX3_coldAfterHour, .code yX3_coldAfterHour cX3_coldAfterHour 2 (some .int), .methodLink RX3 153 Lib.Math.max.name, .static Lib.Math.max.name, .code Lib.Math.max.name Lib.Math.max.code 2 (some .int)] ++ wsX10)
def wsX2_standInHeat : List Cond := .code yX2_standInHeat cX2_standInHeat 3 none :: ([.fieldLink RX2 9 "ColdCreamery$Tub" "scoops" "I", .fieldLink RX2 15 "ColdCreamery$Tub" "soft" "I", .methodLink RX2 21 Lib.Math.min.name, .static Lib.Math.min.name, .initialized "java/lang/Math", .code Lib.Math.min.name Lib.Math.min.code 2 (some .int), .methodLink RX2 27 Lib.Math.max.name, .static Lib.Math.max.name, .code Lib.Math.max.name Lib.Math.max.code 2 (some .int)] ++ wsX20)
def wsX2_sellScoop : List Cond := .code yX2_sellScoop cX2_sellScoop 1 (some .int) :: ([.fieldLink RX2 9 "ColdCreamery$Tub" "scoops" "I", .fieldLink RX2 18 "ColdCreamery$Tub" "sold" "I", .fieldLink RX2 15 "ColdCreamery$Tub" "soft" "I"] ++ wsX20)
def wsX0_serveOne : List Cond := .code yX0_serveOne cX0_serveOne 2 none :: ([.fieldLink RX0 13 "ColdCreamery$Cellar" "stock" "[I", .fieldLink RX0 59 "ColdCreamery$Cellar" "sentAway" "I", .fieldLink RX0 49 "ColdCreamery$Cellar" "coins" "I", .fieldLink RX0 29 "ColdCreamery$Cellar" "tubs" "[LColdCreamery$Tub;", .methodLink RX0 107 yX0_sellingTub, .instanceMethod yX0_sellingTub, .selects RX0 yX0_sellingTub yX0_sellingTub, .initialized RX0, .code yX0_sellingTub cX0_sellingTub 4 (some .int), .fieldLink RX0 68 "ColdCreamery$Cellar" "tubCount" "I", .methodLink RX0 110 yX2_sellScoop, .instanceMethod yX2_sellScoop, .selects RX2 yX2_sellScoop yX2_sellScoop, .initialized RX2, .code yX2_sellScoop cX2_sellScoop 1 (some .int), .fieldLink RX2 9 "ColdCreamery$Tub" "scoops" "I", .fieldLink RX2 18 "ColdCreamery$Tub" "sold" "I", .fieldLink RX2 15 "ColdCreamery$Tub" "soft" "I"] ++ wsX00 ++ wsX20)
def wsX0_servePeople : List Cond := .code yX0_servePeople cX0_servePeople 5 none :: ([.fieldLink RX0 41 "ColdCreamery$Cellar" "hour" "I", .methodLink RX0 104 yX0_serveOne, .instanceMethod yX0_serveOne, .selects RX0 yX0_serveOne yX0_serveOne, .initialized RX0, .code yX0_serveOne cX0_serveOne 2 none, .fieldLink RX0 13 "ColdCreamery$Cellar" "stock" "[I", .fieldLink RX0 59 "ColdCreamery$Cellar" "sentAway" "I", .fieldLink RX0 49 "ColdCreamery$Cellar" "coins" "I", .fieldLink RX0 29 "ColdCreamery$Cellar" "tubs" "[LColdCreamery$Tub;", .methodLink RX0 107 yX0_sellingTub, .instanceMethod yX0_sellingTub, .selects RX0 yX0_sellingTub yX0_sellingTub, .code yX0_sellingTub cX0_sellingTub 4 (some .int), .fieldLink RX0 68 "ColdCreamery$Cellar" "tubCount" "I", .methodLink RX0 110 yX2_sellScoop, .instanceMethod yX2_sellScoop, .selects RX2 yX2_sellScoop yX2_sellScoop, .initialized RX2, .code yX2_sellScoop cX2_sellScoop 1 (some .int), .fieldLink RX2 9 "ColdCreamery$Tub" "scoops" "I", .fieldLink RX2 18 "ColdCreamery$Tub" "sold" "I", .fieldLink RX2 15 "ColdCreamery$Tub" "soft" "I"] ++ wsX00 ++ wsX20)
def wsX3_iceAfterHour : List Cond := .code yX3_iceAfterHour cX3_iceAfterHour 3 (some .int) :: ([.methodLink RX3 153 Lib.Math.max.name, .static Lib.Math.max.name, .initialized "java/lang/Math", .code Lib.Math.max.name Lib.Math.max.code 2 (some .int)])
def wsX2_forgetSoftnessIfEmpty : List Cond := .code yX2_forgetSoftnessIfEmpty cX2_forgetSoftnessIfEmpty 1 none :: ([.fieldLink RX2 9 "ColdCreamery$Tub" "scoops" "I", .fieldLink RX2 15 "ColdCreamery$Tub" "soft" "I"] ++ wsX20)
def wsX0_runHour_r1 : List Cond := [Cond.fieldLink RX0 41 "ColdCreamery$Cellar" "hour" "I", Cond.fieldLink RX0 83 "ColdCreamery$Cellar" "churnCount" "I", Cond.fieldLink RX0 23 "ColdCreamery$Cellar" "churns" "[LColdCreamery$Churn;", Cond.fieldLink RX0 68 "ColdCreamery$Cellar" "tubCount" "I", Cond.fieldLink RX0 29 "ColdCreamery$Cellar" "tubs" "[LColdCreamery$Tub;", Cond.fieldLink RX0 13 "ColdCreamery$Cellar" "stock" "[I", Cond.methodLink RX0 45 yX0_heatAt, Cond.instanceMethod yX0_heatAt, Cond.selects RX0 yX0_heatAt yX0_heatAt, Cond.initialized RX0, Cond.code yX0_heatAt cX0_heatAt 2 (some .int), Cond.fieldLink RX0 18 "ColdCreamery$Cellar" "heats" "[I", Cond.methodLink RX0 62 yJ9_floorMod_7cf53, Cond.static yJ9_floorMod_7cf53, Cond.initialized RJ9, Cond.code yJ9_floorMod_7cf53 cJ9_floorMod_7cf53 3 (some .int), Cond.methodLink RX0 86 yX1_turn, Cond.instanceMethod yX1_turn, Cond.selects RX1 yX1_turn yX1_turn, Cond.initialized RX1, Cond.code yX1_turn cX1_turn 2 none, Cond.fieldLink RX1 13 "ColdCreamery$Churn" "cream" "I", Cond.fieldLink RX1 16 "ColdCreamery$Churn" "firm" "I", Cond.fieldLink RX1 7 "ColdCreamery$Churn" "cold" "I"]
def wsX0_runHour_r2 : List Cond := [Cond.static yX3_firmAfterHour, Cond.initialized RX3, Cond.code yX3_firmAfterHour cX3_firmAfterHour 2 (some .int), Cond.methodLink RX3 38 Lib.Math.min.name, Cond.static Lib.Math.min.name, Cond.initialized "java/lang/Math", Cond.code Lib.Math.min.name Lib.Math.min.code 2 (some .int), Cond.static yX3_coldAfterHour, Cond.code yX3_coldAfterHour cX3_coldAfterHour 2 (some .int), Cond.methodLink RX3 153 Lib.Math.max.name, Cond.static Lib.Math.max.name, Cond.code Lib.Math.max.name Lib.Math.max.code 2 (some .int), Cond.methodLink RX0 90 yX2_standInHeat, Cond.instanceMethod yX2_standInHeat, Cond.selects RX2 yX2_standInHeat yX2_standInHeat, Cond.initialized RX2, Cond.code yX2_standInHeat cX2_standInHeat 3 none, Cond.fieldLink RX2 9 "ColdCreamery$Tub" "scoops" "I", Cond.fieldLink RX2 15 "ColdCreamery$Tub" "soft" "I", Cond.methodLink RX2 21 Lib.Math.min.name, Cond.methodLink RX2 27 Lib.Math.max.name, Cond.methodLink RX0 94 yX0_servePeople, Cond.instanceMethod yX0_servePeople, Cond.selects RX0 yX0_servePeople yX0_servePeople]
def wsX0_runHour_r3 : List Cond := [Cond.code yX0_servePeople cX0_servePeople 5 none, Cond.methodLink RX0 104 yX0_serveOne, Cond.instanceMethod yX0_serveOne, Cond.selects RX0 yX0_serveOne yX0_serveOne, Cond.code yX0_serveOne cX0_serveOne 2 none, Cond.fieldLink RX0 59 "ColdCreamery$Cellar" "sentAway" "I", Cond.fieldLink RX0 49 "ColdCreamery$Cellar" "coins" "I", Cond.methodLink RX0 107 yX0_sellingTub, Cond.instanceMethod yX0_sellingTub, Cond.selects RX0 yX0_sellingTub yX0_sellingTub, Cond.code yX0_sellingTub cX0_sellingTub 4 (some .int), Cond.methodLink RX0 110 yX2_sellScoop, Cond.instanceMethod yX2_sellScoop, Cond.selects RX2 yX2_sellScoop yX2_sellScoop, Cond.code yX2_sellScoop cX2_sellScoop 1 (some .int), Cond.fieldLink RX2 18 "ColdCreamery$Tub" "sold" "I", Cond.static yX3_iceAfterHour, Cond.code yX3_iceAfterHour cX3_iceAfterHour 3 (some .int), Cond.methodLink RX0 101 yX2_forgetSoftnessIfEmpty, Cond.instanceMethod yX2_forgetSoftnessIfEmpty, Cond.selects RX2 yX2_forgetSoftnessIfEmpty yX2_forgetSoftnessIfEmpty, Cond.code yX2_forgetSoftnessIfEmpty cX2_forgetSoftnessIfEmpty 1 none]
def wsX0_runHour : List Cond := .code yX0_runHour cX0_runHour 3 none :: ((wsX0_runHour_r1 ++ (wsX0_runHour_r2 ++ wsX0_runHour_r3)) ++ wsX00 ++ wsX10 ++ wsX20)
def wsX0_runHours_r1 : List Cond := [Cond.methodLink RX0 80 yX0_runHour, Cond.instanceMethod yX0_runHour, Cond.selects RX0 yX0_runHour yX0_runHour, Cond.initialized RX0, Cond.code yX0_runHour cX0_runHour 3 none, Cond.fieldLink RX0 41 "ColdCreamery$Cellar" "hour" "I", Cond.fieldLink RX0 83 "ColdCreamery$Cellar" "churnCount" "I", Cond.fieldLink RX0 23 "ColdCreamery$Cellar" "churns" "[LColdCreamery$Churn;", Cond.fieldLink RX0 68 "ColdCreamery$Cellar" "tubCount" "I", Cond.fieldLink RX0 29 "ColdCreamery$Cellar" "tubs" "[LColdCreamery$Tub;", Cond.fieldLink RX0 13 "ColdCreamery$Cellar" "stock" "[I", Cond.methodLink RX0 45 yX0_heatAt, Cond.instanceMethod yX0_heatAt, Cond.selects RX0 yX0_heatAt yX0_heatAt, Cond.code yX0_heatAt cX0_heatAt 2 (some .int), Cond.fieldLink RX0 18 "ColdCreamery$Cellar" "heats" "[I", Cond.methodLink RX0 62 yJ9_floorMod_7cf53, Cond.static yJ9_floorMod_7cf53, Cond.initialized RJ9, Cond.code yJ9_floorMod_7cf53 cJ9_floorMod_7cf53 3 (some .int), Cond.methodLink RX0 86 yX1_turn, Cond.instanceMethod yX1_turn, Cond.selects RX1 yX1_turn yX1_turn, Cond.initialized RX1]
def wsX0_runHours_r2 : List Cond := [Cond.code yX1_turn cX1_turn 2 none, Cond.fieldLink RX1 13 "ColdCreamery$Churn" "cream" "I", Cond.fieldLink RX1 16 "ColdCreamery$Churn" "firm" "I", Cond.fieldLink RX1 7 "ColdCreamery$Churn" "cold" "I", Cond.static yX3_firmAfterHour, Cond.initialized RX3, Cond.code yX3_firmAfterHour cX3_firmAfterHour 2 (some .int), Cond.methodLink RX3 38 Lib.Math.min.name, Cond.static Lib.Math.min.name, Cond.initialized "java/lang/Math", Cond.code Lib.Math.min.name Lib.Math.min.code 2 (some .int), Cond.static yX3_coldAfterHour, Cond.code yX3_coldAfterHour cX3_coldAfterHour 2 (some .int), Cond.methodLink RX3 153 Lib.Math.max.name, Cond.static Lib.Math.max.name, Cond.code Lib.Math.max.name Lib.Math.max.code 2 (some .int), Cond.methodLink RX0 90 yX2_standInHeat, Cond.instanceMethod yX2_standInHeat, Cond.selects RX2 yX2_standInHeat yX2_standInHeat, Cond.initialized RX2, Cond.code yX2_standInHeat cX2_standInHeat 3 none, Cond.fieldLink RX2 9 "ColdCreamery$Tub" "scoops" "I", Cond.fieldLink RX2 15 "ColdCreamery$Tub" "soft" "I", Cond.methodLink RX2 21 Lib.Math.min.name]
def wsX0_runHours_r3 : List Cond := [Cond.methodLink RX2 27 Lib.Math.max.name, Cond.methodLink RX0 94 yX0_servePeople, Cond.instanceMethod yX0_servePeople, Cond.selects RX0 yX0_servePeople yX0_servePeople, Cond.code yX0_servePeople cX0_servePeople 5 none, Cond.methodLink RX0 104 yX0_serveOne, Cond.instanceMethod yX0_serveOne, Cond.selects RX0 yX0_serveOne yX0_serveOne, Cond.code yX0_serveOne cX0_serveOne 2 none, Cond.fieldLink RX0 59 "ColdCreamery$Cellar" "sentAway" "I", Cond.fieldLink RX0 49 "ColdCreamery$Cellar" "coins" "I", Cond.methodLink RX0 107 yX0_sellingTub, Cond.instanceMethod yX0_sellingTub, Cond.selects RX0 yX0_sellingTub yX0_sellingTub, Cond.code yX0_sellingTub cX0_sellingTub 4 (some .int), Cond.methodLink RX0 110 yX2_sellScoop, Cond.instanceMethod yX2_sellScoop, Cond.selects RX2 yX2_sellScoop yX2_sellScoop, Cond.code yX2_sellScoop cX2_sellScoop 1 (some .int), Cond.fieldLink RX2 18 "ColdCreamery$Tub" "sold" "I", Cond.static yX3_iceAfterHour, Cond.code yX3_iceAfterHour cX3_iceAfterHour 3 (some .int), Cond.methodLink RX0 101 yX2_forgetSoftnessIfEmpty, Cond.instanceMethod yX2_forgetSoftnessIfEmpty]
def wsX0_runHours_r4 : List Cond := [Cond.selects RX2 yX2_forgetSoftnessIfEmpty yX2_forgetSoftnessIfEmpty, Cond.code yX2_forgetSoftnessIfEmpty cX2_forgetSoftnessIfEmpty 1 none]
def wsX0_runHours : List Cond := .code yX0_runHours cX0_runHours 3 none :: ((wsX0_runHours_r1 ++ (wsX0_runHours_r2 ++ (wsX0_runHours_r3 ++ wsX0_runHours_r4))) ++ wsX00 ++ wsX10 ++ wsX20)
def wsX0_hoursUntilFirm : List Cond := .code yX0_hoursUntilFirm cX0_hoursUntilFirm 5 (some .int) :: ([.fieldLink RX0 41 "ColdCreamery$Cellar" "hour" "I", .static yX3_firmAfterHour, .initialized RX3, .code yX3_firmAfterHour cX3_firmAfterHour 2 (some .int), .methodLink RX3 38 Lib.Math.min.name, .static Lib.Math.min.name, .initialized "java/lang/Math", .code Lib.Math.min.name Lib.Math.min.code 2 (some .int), .methodLink RX0 45 yX0_heatAt, .instanceMethod yX0_heatAt, .selects RX0 yX0_heatAt yX0_heatAt, .initialized RX0, .code yX0_heatAt cX0_heatAt 2 (some .int), .fieldLink RX0 18 "ColdCreamery$Cellar" "heats" "[I", .methodLink RX0 62 yJ9_floorMod_7cf53, .static yJ9_floorMod_7cf53, .initialized RJ9, .code yJ9_floorMod_7cf53 cJ9_floorMod_7cf53 3 (some .int), .static yX3_coldAfterHour, .code yX3_coldAfterHour cX3_coldAfterHour 2 (some .int), .methodLink RX3 153 Lib.Math.max.name, .static Lib.Math.max.name, .code Lib.Math.max.name Lib.Math.max.code 2 (some .int)] ++ wsX10 ++ wsX00)
def wsX0_hoursUntilNoIce : List Cond := .code yX0_hoursUntilNoIce cX0_hoursUntilNoIce 3 (some .int) :: ([.fieldLink RX0 13 "ColdCreamery$Cellar" "stock" "[I", .fieldLink RX0 41 "ColdCreamery$Cellar" "hour" "I", .methodLink RX0 45 yX0_heatAt, .instanceMethod yX0_heatAt, .selects RX0 yX0_heatAt yX0_heatAt, .initialized RX0, .code yX0_heatAt cX0_heatAt 2 (some .int), .fieldLink RX0 18 "ColdCreamery$Cellar" "heats" "[I", .methodLink RX0 62 yJ9_floorMod_7cf53, .static yJ9_floorMod_7cf53, .initialized RJ9, .code yJ9_floorMod_7cf53 cJ9_floorMod_7cf53 3 (some .int), .static yX3_iceAfterHour, .initialized RX3, .code yX3_iceAfterHour cX3_iceAfterHour 3 (some .int), .methodLink RX3 153 Lib.Math.max.name, .static Lib.Math.max.name, .initialized "java/lang/Math", .code Lib.Math.max.name Lib.Math.max.code 2 (some .int)] ++ wsX00)
def wsX1_copyFrom : List Cond := .code yX1_copyFrom cX1_copyFrom 2 none :: ([.fieldLink RX1 7 "ColdCreamery$Churn" "cold" "I", .fieldLink RX1 13 "ColdCreamery$Churn" "cream" "I", .fieldLink RX1 16 "ColdCreamery$Churn" "firm" "I"] ++ wsX10)
def wsX2_copyFrom : List Cond := .code yX2_copyFrom cX2_copyFrom 2 none :: ([.fieldLink RX2 9 "ColdCreamery$Tub" "scoops" "I", .fieldLink RX2 15 "ColdCreamery$Tub" "soft" "I", .fieldLink RX2 18 "ColdCreamery$Tub" "sold" "I"] ++ wsX20)
def wsX0_copyFrom_r1 : List Cond := [Cond.fieldLink RX0 13 "ColdCreamery$Cellar" "stock" "[I", Cond.methodLink RX0 128 arraycopyName, Cond.native arraycopyName, Cond.static arraycopyName, Cond.initialized "java/lang/System", Cond.fieldLink RX0 18 "ColdCreamery$Cellar" "heats" "[I", Cond.fieldLink RX0 23 "ColdCreamery$Cellar" "churns" "[LColdCreamery$Churn;", Cond.fieldLink RX0 29 "ColdCreamery$Cellar" "tubs" "[LColdCreamery$Tub;", Cond.fieldLink RX0 83 "ColdCreamery$Cellar" "churnCount" "I", Cond.fieldLink RX0 68 "ColdCreamery$Cellar" "tubCount" "I", Cond.fieldLink RX0 41 "ColdCreamery$Cellar" "hour" "I", Cond.fieldLink RX0 49 "ColdCreamery$Cellar" "coins" "I", Cond.fieldLink RX0 59 "ColdCreamery$Cellar" "sentAway" "I", Cond.methodLink RX0 134 yX1_copyFrom, Cond.instanceMethod yX1_copyFrom, Cond.selects RX1 yX1_copyFrom yX1_copyFrom, Cond.initialized RX1, Cond.code yX1_copyFrom cX1_copyFrom 2 none, Cond.fieldLink RX1 7 "ColdCreamery$Churn" "cold" "I", Cond.fieldLink RX1 13 "ColdCreamery$Churn" "cream" "I", Cond.fieldLink RX1 16 "ColdCreamery$Churn" "firm" "I", Cond.methodLink RX0 138 yX2_copyFrom, Cond.instanceMethod yX2_copyFrom, Cond.selects RX2 yX2_copyFrom yX2_copyFrom]
def wsX0_copyFrom_r2 : List Cond := [Cond.initialized RX2, Cond.code yX2_copyFrom cX2_copyFrom 2 none, Cond.fieldLink RX2 9 "ColdCreamery$Tub" "scoops" "I", Cond.fieldLink RX2 15 "ColdCreamery$Tub" "soft" "I", Cond.fieldLink RX2 18 "ColdCreamery$Tub" "sold" "I"]
def wsX0_copyFrom : List Cond := .code yX0_copyFrom cX0_copyFrom 3 none :: ((wsX0_copyFrom_r1 ++ wsX0_copyFrom_r2) ++ wsX00 ++ wsX10 ++ wsX20)
def wsX1_number : List Cond := .code yX1_number cX1_number 2 (some .int) :: ([.fieldLink RX1 7 "ColdCreamery$Churn" "cold" "I", .fieldLink RX1 13 "ColdCreamery$Churn" "cream" "I", .fieldLink RX1 16 "ColdCreamery$Churn" "firm" "I"] ++ wsX10)
def wsX1_add : List Cond := .code yX1_add cX1_add 3 none :: ([.fieldLink RX1 13 "ColdCreamery$Churn" "cream" "I", .fieldLink RX1 16 "ColdCreamery$Churn" "firm" "I"] ++ wsX10)
def wsX2_number : List Cond := .code yX2_number cX2_number 2 (some .int) :: ([.fieldLink RX2 9 "ColdCreamery$Tub" "scoops" "I", .fieldLink RX2 15 "ColdCreamery$Tub" "soft" "I", .fieldLink RX2 18 "ColdCreamery$Tub" "sold" "I"] ++ wsX20)
def wsX2_take : List Cond := .code yX2_take cX2_take 3 none :: ([.fieldLink RX2 9 "ColdCreamery$Tub" "scoops" "I", .methodLink RX2 21 Lib.Math.min.name, .static Lib.Math.min.name, .initialized "java/lang/Math", .code Lib.Math.min.name Lib.Math.min.code 2 (some .int), .fieldLink RX2 15 "ColdCreamery$Tub" "soft" "I", .methodLink RX2 27 Lib.Math.max.name, .static Lib.Math.max.name, .code Lib.Math.max.name Lib.Math.max.code 2 (some .int)] ++ wsX20)
def wsX3_init_r1 : List Cond := [Cond.methodLink RX3 1 objectInit, Cond.instanceMethod objectInit, Cond.code objectInit ⟨#[0xb1]⟩ 1 none, Cond.classLink RX3 7 RX0, Cond.instantiable RX0 9, Cond.initialized RX0, Cond.fieldLink RX3 10 "ColdCreamery" "cellar" "LColdCreamery$Cellar;", Cond.fieldLink RX3 16 "ColdCreamery" "foreseen" "LColdCreamery$Cellar;", Cond.methodLink RX3 9 yX0_init, Cond.instanceMethod yX0_init, Cond.code yX0_init cX0_init 2 none, Cond.methodLink RX0 3 objectInit, Cond.arrayClass .int, Cond.fieldLink RX0 13 "ColdCreamery$Cellar" "stock" "[I", Cond.fieldLink RX0 18 "ColdCreamery$Cellar" "heats" "[I", Cond.classLink RX0 21 RX1, Cond.fieldLink RX0 23 "ColdCreamery$Cellar" "churns" "[LColdCreamery$Churn;", Cond.classLink RX0 27 RX2, Cond.fieldLink RX0 29 "ColdCreamery$Cellar" "tubs" "[LColdCreamery$Tub;", Cond.instantiable RX1 3, Cond.initialized RX1, Cond.instantiable RX2 3, Cond.initialized RX2, Cond.methodLink RX0 33 yJ7_fill_53178]
def wsX3_init_r2 : List Cond := [Cond.static yJ7_fill_53178, Cond.initialized RJ7, Cond.code yJ7_fill_53178 cJ7_fill_53178 4 none, Cond.instanceMethod yX1_init, Cond.code yX1_init cX1_init 1 none, Cond.methodLink RX1 1 objectInit, Cond.instanceMethod yX2_init, Cond.code yX2_init cX2_init 1 none, Cond.methodLink RX2 3 objectInit]
def wsX3_init : List Cond := .code yX3_init cX3_init 1 none :: ((wsX3_init_r1 ++ wsX3_init_r2) ++ wsX00 ++ wsX30 ++ wsX10 ++ wsX20)
def wsX3_bring : List Cond := .code yX3_bring cX3_bring 3 (some .int) :: ([.classLink RX3 19 "java/lang/IndexOutOfBoundsException", .initialized "java/lang/IndexOutOfBoundsException", .classLink RX3 26 "java/lang/IllegalArgumentException", .initialized "java/lang/IllegalArgumentException", .fieldLink RX3 10 "ColdCreamery" "cellar" "LColdCreamery$Cellar;", .fieldLink RX3 35 "ColdCreamery" "STOCK_LIMITS" "[I", .methodLink RX3 38 Lib.Math.min.name, .static Lib.Math.min.name, .initialized "java/lang/Math", .code Lib.Math.min.name Lib.Math.min.code 2 (some .int)] ++ wsX30 ++ wsX00 ++ (vx_atS RX3 23 "java/lang/IndexOutOfBoundsException" ["java/lang/RuntimeException", "java/lang/Exception"]).filter goodWord ++ (vx_atS RX3 30 "java/lang/IllegalArgumentException" ["java/lang/RuntimeException", "java/lang/Exception"]).filter goodWord)
def wsX3_setHeat : List Cond := .code yX3_setHeat cX3_setHeat 4 (some .int) :: ([.classLink RX3 19 "java/lang/IndexOutOfBoundsException", .initialized "java/lang/IndexOutOfBoundsException", .classLink RX3 26 "java/lang/IllegalArgumentException", .initialized "java/lang/IllegalArgumentException", .fieldLink RX3 10 "ColdCreamery" "cellar" "LColdCreamery$Cellar;"] ++ wsX30 ++ wsX00 ++ (vx_atS RX3 23 "java/lang/IndexOutOfBoundsException" ["java/lang/RuntimeException", "java/lang/Exception"]).filter goodWord ++ (vx_atS RX3 30 "java/lang/IllegalArgumentException" ["java/lang/RuntimeException", "java/lang/Exception"]).filter goodWord)
def wsX3_churn : List Cond := .code yX3_churn cX3_churn 2 (some .int) :: ([.classLink RX3 55 "java/lang/IllegalStateException", .initialized "java/lang/IllegalStateException", .fieldLink RX3 10 "ColdCreamery" "cellar" "LColdCreamery$Cellar;"] ++ wsX30 ++ wsX00 ++ (vx_atS RX3 59 "java/lang/IllegalStateException" ["java/lang/RuntimeException", "java/lang/Exception"]).filter goodWord)
def wsX3_tub : List Cond := .code yX3_tub cX3_tub 2 (some .int) :: ([.classLink RX3 55 "java/lang/IllegalStateException", .initialized "java/lang/IllegalStateException", .fieldLink RX3 10 "ColdCreamery" "cellar" "LColdCreamery$Cellar;"] ++ wsX30 ++ wsX00 ++ (vx_atS RX3 59 "java/lang/IllegalStateException" ["java/lang/RuntimeException", "java/lang/Exception"]).filter goodWord)
def wsX3_existingChurn : List Cond := .code yX3_existingChurn cX3_existingChurn 2 (some (.object "ColdCreamery$Churn")) :: ([.classLink RX3 19 "java/lang/IndexOutOfBoundsException", .initialized "java/lang/IndexOutOfBoundsException", .fieldLink RX3 10 "ColdCreamery" "cellar" "LColdCreamery$Cellar;"] ++ wsX30 ++ wsX00 ++ (vx_atS RX3 23 "java/lang/IndexOutOfBoundsException" ["java/lang/RuntimeException", "java/lang/Exception"]).filter goodWord)
def wsX3_checkPacked : List Cond := .code yX3_checkPacked cX3_checkPacked 1 none :: ([.classLink RX3 26 "java/lang/IllegalArgumentException", .initialized "java/lang/IllegalArgumentException"] ++ (vx_atS RX3 30 "java/lang/IllegalArgumentException" ["java/lang/RuntimeException", "java/lang/Exception"]).filter goodWord)
def wsX3_coldOfIce : List Cond := .code yX3_coldOfIce cX3_coldOfIce 1 (some .int) :: ([])
def wsX3_coldWithBrine : List Cond := .code yX3_coldWithBrine cX3_coldWithBrine 5 (some .int) :: ([.methodLink RX3 38 Lib.Math.min.name, .static Lib.Math.min.name, .initialized "java/lang/Math", .code Lib.Math.min.name Lib.Math.min.code 2 (some .int), .methodLink RX3 150 yX3_coldOfIce, .static yX3_coldOfIce, .initialized RX3, .code yX3_coldOfIce cX3_coldOfIce 1 (some .int)])
def wsX3_pack_r1 : List Cond := [Cond.classLink RX3 55 "java/lang/IllegalStateException", Cond.initialized "java/lang/IllegalStateException", Cond.fieldLink RX3 10 "ColdCreamery" "cellar" "LColdCreamery$Cellar;", Cond.methodLink RX3 65 yX3_existingChurn, Cond.instanceMethod yX3_existingChurn, Cond.selects RX3 yX3_existingChurn yX3_existingChurn, Cond.initialized RX3, Cond.code yX3_existingChurn cX3_existingChurn 2 (some (.object "ColdCreamery$Churn")), Cond.classLink RX3 19 "java/lang/IndexOutOfBoundsException", Cond.initialized "java/lang/IndexOutOfBoundsException", Cond.methodLink RX3 69 yX3_checkPacked, Cond.static yX3_checkPacked, Cond.code yX3_checkPacked cX3_checkPacked 1 none, Cond.classLink RX3 26 "java/lang/IllegalArgumentException", Cond.initialized "java/lang/IllegalArgumentException", Cond.methodLink RX3 80 yX3_coldWithBrine, Cond.static yX3_coldWithBrine, Cond.code yX3_coldWithBrine cX3_coldWithBrine 5 (some .int), Cond.methodLink RX3 38 Lib.Math.min.name, Cond.static Lib.Math.min.name, Cond.initialized "java/lang/Math", Cond.code Lib.Math.min.name Lib.Math.min.code 2 (some .int), Cond.methodLink RX3 150 yX3_coldOfIce, Cond.static yX3_coldOfIce]
def wsX3_pack_r2 : List Cond := [Cond.code yX3_coldOfIce cX3_coldOfIce 1 (some .int)]
def wsX3_pack : List Cond := .code yX3_pack cX3_pack 5 (some .int) :: ((wsX3_pack_r1 ++ wsX3_pack_r2) ++ wsX30 ++ wsX00 ++ wsX10 ++ (vx_atS RX3 59 "java/lang/IllegalStateException" ["java/lang/RuntimeException", "java/lang/Exception"]).filter goodWord ++ (vx_atS RX3 23 "java/lang/IndexOutOfBoundsException" ["java/lang/RuntimeException", "java/lang/Exception"]).filter goodWord ++ (vx_atS RX3 30 "java/lang/IllegalArgumentException" ["java/lang/RuntimeException", "java/lang/Exception"]).filter goodWord)
def wsX3_pour : List Cond := .code yX3_pour cX3_pour 4 (some .int) :: ([.classLink RX3 26 "java/lang/IllegalArgumentException", .initialized "java/lang/IllegalArgumentException", .classLink RX3 55 "java/lang/IllegalStateException", .initialized "java/lang/IllegalStateException", .fieldLink RX3 10 "ColdCreamery" "cellar" "LColdCreamery$Cellar;", .methodLink RX3 65 yX3_existingChurn, .instanceMethod yX3_existingChurn, .selects RX3 yX3_existingChurn yX3_existingChurn, .initialized RX3, .code yX3_existingChurn cX3_existingChurn 2 (some (.object "ColdCreamery$Churn")), .classLink RX3 19 "java/lang/IndexOutOfBoundsException", .initialized "java/lang/IndexOutOfBoundsException", .methodLink RX3 93 yX1_add, .instanceMethod yX1_add, .selects RX1 yX1_add yX1_add, .initialized RX1, .code yX1_add cX1_add 3 none, .fieldLink RX1 13 "ColdCreamery$Churn" "cream" "I", .fieldLink RX1 16 "ColdCreamery$Churn" "firm" "I"] ++ wsX30 ++ wsX00 ++ wsX10 ++ (vx_atS RX3 30 "java/lang/IllegalArgumentException" ["java/lang/RuntimeException", "java/lang/Exception"]).filter goodWord ++ (vx_atS RX3 59 "java/lang/IllegalStateException" ["java/lang/RuntimeException", "java/lang/Exception"]).filter goodWord ++ (vx_atS RX3 23 "java/lang/IndexOutOfBoundsException" ["java/lang/RuntimeException", "java/lang/Exception"]).filter goodWord)
def wsX3_existingTub : List Cond := .code yX3_existingTub cX3_existingTub 2 (some (.object "ColdCreamery$Tub")) :: ([.classLink RX3 19 "java/lang/IndexOutOfBoundsException", .initialized "java/lang/IndexOutOfBoundsException", .fieldLink RX3 10 "ColdCreamery" "cellar" "LColdCreamery$Cellar;"] ++ wsX30 ++ wsX00 ++ (vx_atS RX3 23 "java/lang/IndexOutOfBoundsException" ["java/lang/RuntimeException", "java/lang/Exception"]).filter goodWord)
def wsX3_scoop_r1 : List Cond := [Cond.classLink RX3 55 "java/lang/IllegalStateException", Cond.initialized "java/lang/IllegalStateException", Cond.methodLink RX3 65 yX3_existingChurn, Cond.instanceMethod yX3_existingChurn, Cond.selects RX3 yX3_existingChurn yX3_existingChurn, Cond.initialized RX3, Cond.code yX3_existingChurn cX3_existingChurn 2 (some (.object "ColdCreamery$Churn")), Cond.classLink RX3 19 "java/lang/IndexOutOfBoundsException", Cond.initialized "java/lang/IndexOutOfBoundsException", Cond.fieldLink RX3 10 "ColdCreamery" "cellar" "LColdCreamery$Cellar;", Cond.methodLink RX3 99 yX3_existingTub, Cond.instanceMethod yX3_existingTub, Cond.selects RX3 yX3_existingTub yX3_existingTub, Cond.code yX3_existingTub cX3_existingTub 2 (some (.object "ColdCreamery$Tub")), Cond.methodLink RX3 105 yX2_take, Cond.instanceMethod yX2_take, Cond.selects RX2 yX2_take yX2_take, Cond.initialized RX2, Cond.code yX2_take cX2_take 3 none, Cond.fieldLink RX2 9 "ColdCreamery$Tub" "scoops" "I", Cond.methodLink RX2 21 Lib.Math.min.name, Cond.static Lib.Math.min.name, Cond.initialized "java/lang/Math", Cond.code Lib.Math.min.name Lib.Math.min.code 2 (some .int)]
def wsX3_scoop_r2 : List Cond := [Cond.fieldLink RX2 15 "ColdCreamery$Tub" "soft" "I", Cond.methodLink RX2 27 Lib.Math.max.name, Cond.static Lib.Math.max.name, Cond.code Lib.Math.max.name Lib.Math.max.code 2 (some .int)]
def wsX3_scoop : List Cond := .code yX3_scoop cX3_scoop 5 (some .int) :: ((wsX3_scoop_r1 ++ wsX3_scoop_r2) ++ wsX10 ++ wsX20 ++ wsX30 ++ wsX00 ++ (vx_atS RX3 59 "java/lang/IllegalStateException" ["java/lang/RuntimeException", "java/lang/Exception"]).filter goodWord ++ (vx_atS RX3 23 "java/lang/IndexOutOfBoundsException" ["java/lang/RuntimeException", "java/lang/Exception"]).filter goodWord)
def wsX3_told : List Cond := .code yX3_told cX3_told 4 (some .int) :: ([.classLink RX3 19 "java/lang/IndexOutOfBoundsException", .initialized "java/lang/IndexOutOfBoundsException", .methodLink RX3 65 yX3_existingChurn, .instanceMethod yX3_existingChurn, .selects RX3 yX3_existingChurn yX3_existingChurn, .initialized RX3, .code yX3_existingChurn cX3_existingChurn 2 (some (.object "ColdCreamery$Churn")), .fieldLink RX3 10 "ColdCreamery" "cellar" "LColdCreamery$Cellar;", .methodLink RX3 116 yX1_number, .instanceMethod yX1_number, .selects RX1 yX1_number yX1_number, .initialized RX1, .code yX1_number cX1_number 2 (some .int), .fieldLink RX1 7 "ColdCreamery$Churn" "cold" "I", .fieldLink RX1 13 "ColdCreamery$Churn" "cream" "I", .fieldLink RX1 16 "ColdCreamery$Churn" "firm" "I"] ++ wsX30 ++ wsX00 ++ wsX10 ++ (vx_atS RX3 23 "java/lang/IndexOutOfBoundsException" ["java/lang/RuntimeException", "java/lang/Exception"]).filter goodWord)
def wsX3_about : List Cond := .code yX3_about cX3_about 4 (some .int) :: ([.classLink RX3 19 "java/lang/IndexOutOfBoundsException", .initialized "java/lang/IndexOutOfBoundsException", .methodLink RX3 99 yX3_existingTub, .instanceMethod yX3_existingTub, .selects RX3 yX3_existingTub yX3_existingTub, .initialized RX3, .code yX3_existingTub cX3_existingTub 2 (some (.object "ColdCreamery$Tub")), .fieldLink RX3 10 "ColdCreamery" "cellar" "LColdCreamery$Cellar;", .methodLink RX3 120 yX2_number, .instanceMethod yX2_number, .selects RX2 yX2_number yX2_number, .initialized RX2, .code yX2_number cX2_number 2 (some .int), .fieldLink RX2 9 "ColdCreamery$Tub" "scoops" "I", .fieldLink RX2 15 "ColdCreamery$Tub" "soft" "I", .fieldLink RX2 18 "ColdCreamery$Tub" "sold" "I"] ++ wsX30 ++ wsX00 ++ wsX20 ++ (vx_atS RX3 23 "java/lang/IndexOutOfBoundsException" ["java/lang/RuntimeException", "java/lang/Exception"]).filter goodWord)
def wsX3_count_r1 : List Cond := [Cond.classLink RX3 19 "java/lang/IndexOutOfBoundsException", Cond.initialized "java/lang/IndexOutOfBoundsException", Cond.fieldLink RX3 10 "ColdCreamery" "cellar" "LColdCreamery$Cellar;", Cond.methodLink RX3 123 yX0_number, Cond.instanceMethod yX0_number, Cond.selects RX0 yX0_number yX0_number, Cond.initialized RX0, Cond.code yX0_number cX0_number 2 (some .int), Cond.fieldLink RX0 41 "ColdCreamery$Cellar" "hour" "I", Cond.fieldLink RX0 13 "ColdCreamery$Cellar" "stock" "[I", Cond.fieldLink RX0 49 "ColdCreamery$Cellar" "coins" "I", Cond.fieldLink RX0 59 "ColdCreamery$Cellar" "sentAway" "I", Cond.methodLink RX0 45 yX0_heatAt, Cond.instanceMethod yX0_heatAt, Cond.selects RX0 yX0_heatAt yX0_heatAt, Cond.code yX0_heatAt cX0_heatAt 2 (some .int), Cond.fieldLink RX0 18 "ColdCreamery$Cellar" "heats" "[I", Cond.methodLink RX0 62 yJ9_floorMod_7cf53, Cond.static yJ9_floorMod_7cf53, Cond.initialized RJ9, Cond.code yJ9_floorMod_7cf53 cJ9_floorMod_7cf53 3 (some .int), Cond.methodLink RX0 52 yX0_scoopsInTubs, Cond.instanceMethod yX0_scoopsInTubs, Cond.selects RX0 yX0_scoopsInTubs yX0_scoopsInTubs]
def wsX3_count_r2 : List Cond := [Cond.code yX0_scoopsInTubs cX0_scoopsInTubs 3 (some .int), Cond.fieldLink RX0 68 "ColdCreamery$Cellar" "tubCount" "I", Cond.fieldLink RX0 29 "ColdCreamery$Cellar" "tubs" "[LColdCreamery$Tub;", Cond.methodLink RX0 56 yX0_soldScoops, Cond.instanceMethod yX0_soldScoops, Cond.selects RX0 yX0_soldScoops yX0_soldScoops, Cond.code yX0_soldScoops cX0_soldScoops 3 (some .int)]
def wsX3_count : List Cond := .code yX3_count cX3_count 2 (some .int) :: ((wsX3_count_r1 ++ wsX3_count_r2) ++ wsX30 ++ wsX00 ++ wsX20 ++ (vx_atS RX3 23 "java/lang/IndexOutOfBoundsException" ["java/lang/RuntimeException", "java/lang/Exception"]).filter goodWord)
def wsX3_next : List Cond := .code yX3_next cX3_next 1 (some .int) :: ([.fieldLink RX3 10 "ColdCreamery" "cellar" "LColdCreamery$Cellar;", .methodLink RX3 124 yX0_sellingTub, .instanceMethod yX0_sellingTub, .selects RX0 yX0_sellingTub yX0_sellingTub, .initialized RX0, .code yX0_sellingTub cX0_sellingTub 4 (some .int), .fieldLink RX0 68 "ColdCreamery$Cellar" "tubCount" "I", .fieldLink RX0 29 "ColdCreamery$Cellar" "tubs" "[LColdCreamery$Tub;"] ++ wsX30 ++ wsX00 ++ wsX20)
def wsX3_checkHours : List Cond := .code yX3_checkHours cX3_checkHours 1 none :: ([.classLink RX3 26 "java/lang/IllegalArgumentException", .initialized "java/lang/IllegalArgumentException"] ++ (vx_atS RX3 30 "java/lang/IllegalArgumentException" ["java/lang/RuntimeException", "java/lang/Exception"]).filter goodWord)
def wsX3_pass_r1 : List Cond := [Cond.fieldLink RX3 10 "ColdCreamery" "cellar" "LColdCreamery$Cellar;", Cond.methodLink RX3 128 yX3_checkHours, Cond.static yX3_checkHours, Cond.initialized RX3, Cond.code yX3_checkHours cX3_checkHours 1 none, Cond.classLink RX3 26 "java/lang/IllegalArgumentException", Cond.initialized "java/lang/IllegalArgumentException", Cond.methodLink RX3 134 yX0_runHours, Cond.instanceMethod yX0_runHours, Cond.selects RX0 yX0_runHours yX0_runHours, Cond.initialized RX0, Cond.code yX0_runHours cX0_runHours 3 none, Cond.methodLink RX0 80 yX0_runHour, Cond.instanceMethod yX0_runHour, Cond.selects RX0 yX0_runHour yX0_runHour, Cond.code yX0_runHour cX0_runHour 3 none, Cond.fieldLink RX0 41 "ColdCreamery$Cellar" "hour" "I", Cond.fieldLink RX0 83 "ColdCreamery$Cellar" "churnCount" "I", Cond.fieldLink RX0 23 "ColdCreamery$Cellar" "churns" "[LColdCreamery$Churn;", Cond.fieldLink RX0 68 "ColdCreamery$Cellar" "tubCount" "I", Cond.fieldLink RX0 29 "ColdCreamery$Cellar" "tubs" "[LColdCreamery$Tub;", Cond.fieldLink RX0 13 "ColdCreamery$Cellar" "stock" "[I", Cond.methodLink RX0 45 yX0_heatAt, Cond.instanceMethod yX0_heatAt]
def wsX3_pass_r2 : List Cond := [Cond.selects RX0 yX0_heatAt yX0_heatAt, Cond.code yX0_heatAt cX0_heatAt 2 (some .int), Cond.fieldLink RX0 18 "ColdCreamery$Cellar" "heats" "[I", Cond.methodLink RX0 62 yJ9_floorMod_7cf53, Cond.static yJ9_floorMod_7cf53, Cond.initialized RJ9, Cond.code yJ9_floorMod_7cf53 cJ9_floorMod_7cf53 3 (some .int), Cond.methodLink RX0 86 yX1_turn, Cond.instanceMethod yX1_turn, Cond.selects RX1 yX1_turn yX1_turn, Cond.initialized RX1, Cond.code yX1_turn cX1_turn 2 none, Cond.fieldLink RX1 13 "ColdCreamery$Churn" "cream" "I", Cond.fieldLink RX1 16 "ColdCreamery$Churn" "firm" "I", Cond.fieldLink RX1 7 "ColdCreamery$Churn" "cold" "I", Cond.static yX3_firmAfterHour, Cond.code yX3_firmAfterHour cX3_firmAfterHour 2 (some .int), Cond.methodLink RX3 38 Lib.Math.min.name, Cond.static Lib.Math.min.name, Cond.initialized "java/lang/Math", Cond.code Lib.Math.min.name Lib.Math.min.code 2 (some .int), Cond.static yX3_coldAfterHour, Cond.code yX3_coldAfterHour cX3_coldAfterHour 2 (some .int), Cond.methodLink RX3 153 Lib.Math.max.name]
def wsX3_pass_r3 : List Cond := [Cond.static Lib.Math.max.name, Cond.code Lib.Math.max.name Lib.Math.max.code 2 (some .int), Cond.methodLink RX0 90 yX2_standInHeat, Cond.instanceMethod yX2_standInHeat, Cond.selects RX2 yX2_standInHeat yX2_standInHeat, Cond.initialized RX2, Cond.code yX2_standInHeat cX2_standInHeat 3 none, Cond.fieldLink RX2 9 "ColdCreamery$Tub" "scoops" "I", Cond.fieldLink RX2 15 "ColdCreamery$Tub" "soft" "I", Cond.methodLink RX2 21 Lib.Math.min.name, Cond.methodLink RX2 27 Lib.Math.max.name, Cond.methodLink RX0 94 yX0_servePeople, Cond.instanceMethod yX0_servePeople, Cond.selects RX0 yX0_servePeople yX0_servePeople, Cond.code yX0_servePeople cX0_servePeople 5 none, Cond.methodLink RX0 104 yX0_serveOne, Cond.instanceMethod yX0_serveOne, Cond.selects RX0 yX0_serveOne yX0_serveOne, Cond.code yX0_serveOne cX0_serveOne 2 none, Cond.fieldLink RX0 59 "ColdCreamery$Cellar" "sentAway" "I", Cond.fieldLink RX0 49 "ColdCreamery$Cellar" "coins" "I", Cond.methodLink RX0 107 yX0_sellingTub, Cond.instanceMethod yX0_sellingTub, Cond.selects RX0 yX0_sellingTub yX0_sellingTub]
def wsX3_pass_r4 : List Cond := [Cond.code yX0_sellingTub cX0_sellingTub 4 (some .int), Cond.methodLink RX0 110 yX2_sellScoop, Cond.instanceMethod yX2_sellScoop, Cond.selects RX2 yX2_sellScoop yX2_sellScoop, Cond.code yX2_sellScoop cX2_sellScoop 1 (some .int), Cond.fieldLink RX2 18 "ColdCreamery$Tub" "sold" "I", Cond.static yX3_iceAfterHour, Cond.code yX3_iceAfterHour cX3_iceAfterHour 3 (some .int), Cond.methodLink RX0 101 yX2_forgetSoftnessIfEmpty, Cond.instanceMethod yX2_forgetSoftnessIfEmpty, Cond.selects RX2 yX2_forgetSoftnessIfEmpty yX2_forgetSoftnessIfEmpty, Cond.code yX2_forgetSoftnessIfEmpty cX2_forgetSoftnessIfEmpty 1 none]
def wsX3_pass : List Cond := .code yX3_pass cX3_pass 3 (some .int) :: ((wsX3_pass_r1 ++ (wsX3_pass_r2 ++ (wsX3_pass_r3 ++ wsX3_pass_r4))) ++ wsX30 ++ wsX00 ++ wsX10 ++ wsX20 ++ (vx_atS RX3 30 "java/lang/IllegalArgumentException" ["java/lang/RuntimeException", "java/lang/Exception"]).filter goodWord)
def wsX3_done_r1 : List Cond := [Cond.fieldLink RX3 10 "ColdCreamery" "cellar" "LColdCreamery$Cellar;", Cond.methodLink RX3 65 yX3_existingChurn, Cond.instanceMethod yX3_existingChurn, Cond.selects RX3 yX3_existingChurn yX3_existingChurn, Cond.initialized RX3, Cond.code yX3_existingChurn cX3_existingChurn 2 (some (.object "ColdCreamery$Churn")), Cond.classLink RX3 19 "java/lang/IndexOutOfBoundsException", Cond.initialized "java/lang/IndexOutOfBoundsException", Cond.methodLink RX3 137 yX0_hoursUntilFirm, Cond.instanceMethod yX0_hoursUntilFirm, Cond.selects RX0 yX0_hoursUntilFirm yX0_hoursUntilFirm, Cond.initialized RX0, Cond.code yX0_hoursUntilFirm cX0_hoursUntilFirm 5 (some .int), Cond.fieldLink RX0 41 "ColdCreamery$Cellar" "hour" "I", Cond.static yX3_firmAfterHour, Cond.code yX3_firmAfterHour cX3_firmAfterHour 2 (some .int), Cond.methodLink RX3 38 Lib.Math.min.name, Cond.static Lib.Math.min.name, Cond.initialized "java/lang/Math", Cond.code Lib.Math.min.name Lib.Math.min.code 2 (some .int), Cond.methodLink RX0 45 yX0_heatAt, Cond.instanceMethod yX0_heatAt, Cond.selects RX0 yX0_heatAt yX0_heatAt, Cond.code yX0_heatAt cX0_heatAt 2 (some .int)]
def wsX3_done_r2 : List Cond := [Cond.fieldLink RX0 18 "ColdCreamery$Cellar" "heats" "[I", Cond.methodLink RX0 62 yJ9_floorMod_7cf53, Cond.static yJ9_floorMod_7cf53, Cond.initialized RJ9, Cond.code yJ9_floorMod_7cf53 cJ9_floorMod_7cf53 3 (some .int), Cond.static yX3_coldAfterHour, Cond.code yX3_coldAfterHour cX3_coldAfterHour 2 (some .int), Cond.methodLink RX3 153 Lib.Math.max.name, Cond.static Lib.Math.max.name, Cond.code Lib.Math.max.name Lib.Math.max.code 2 (some .int)]
def wsX3_done : List Cond := .code yX3_done cX3_done 2 (some .int) :: ((wsX3_done_r1 ++ wsX3_done_r2) ++ wsX30 ++ wsX00 ++ wsX10 ++ (vx_atS RX3 23 "java/lang/IndexOutOfBoundsException" ["java/lang/RuntimeException", "java/lang/Exception"]).filter goodWord)
def wsX3_foresee_r1 : List Cond := [Cond.classLink RX3 19 "java/lang/IndexOutOfBoundsException", Cond.initialized "java/lang/IndexOutOfBoundsException", Cond.fieldLink RX3 16 "ColdCreamery" "foreseen" "LColdCreamery$Cellar;", Cond.fieldLink RX3 10 "ColdCreamery" "cellar" "LColdCreamery$Cellar;", Cond.methodLink RX3 128 yX3_checkHours, Cond.static yX3_checkHours, Cond.initialized RX3, Cond.code yX3_checkHours cX3_checkHours 1 none, Cond.classLink RX3 26 "java/lang/IllegalArgumentException", Cond.initialized "java/lang/IllegalArgumentException", Cond.methodLink RX3 143 yX0_copyFrom, Cond.instanceMethod yX0_copyFrom, Cond.selects RX0 yX0_copyFrom yX0_copyFrom, Cond.initialized RX0, Cond.code yX0_copyFrom cX0_copyFrom 3 none, Cond.fieldLink RX0 13 "ColdCreamery$Cellar" "stock" "[I", Cond.methodLink RX0 128 arraycopyName, Cond.native arraycopyName, Cond.static arraycopyName, Cond.initialized "java/lang/System", Cond.fieldLink RX0 18 "ColdCreamery$Cellar" "heats" "[I", Cond.fieldLink RX0 23 "ColdCreamery$Cellar" "churns" "[LColdCreamery$Churn;", Cond.fieldLink RX0 29 "ColdCreamery$Cellar" "tubs" "[LColdCreamery$Tub;", Cond.fieldLink RX0 83 "ColdCreamery$Cellar" "churnCount" "I"]
def wsX3_foresee_r2 : List Cond := [Cond.fieldLink RX0 68 "ColdCreamery$Cellar" "tubCount" "I", Cond.fieldLink RX0 41 "ColdCreamery$Cellar" "hour" "I", Cond.fieldLink RX0 49 "ColdCreamery$Cellar" "coins" "I", Cond.fieldLink RX0 59 "ColdCreamery$Cellar" "sentAway" "I", Cond.methodLink RX0 134 yX1_copyFrom, Cond.instanceMethod yX1_copyFrom, Cond.selects RX1 yX1_copyFrom yX1_copyFrom, Cond.initialized RX1, Cond.code yX1_copyFrom cX1_copyFrom 2 none, Cond.fieldLink RX1 7 "ColdCreamery$Churn" "cold" "I", Cond.fieldLink RX1 13 "ColdCreamery$Churn" "cream" "I", Cond.fieldLink RX1 16 "ColdCreamery$Churn" "firm" "I", Cond.methodLink RX0 138 yX2_copyFrom, Cond.instanceMethod yX2_copyFrom, Cond.selects RX2 yX2_copyFrom yX2_copyFrom, Cond.initialized RX2, Cond.code yX2_copyFrom cX2_copyFrom 2 none, Cond.fieldLink RX2 9 "ColdCreamery$Tub" "scoops" "I", Cond.fieldLink RX2 15 "ColdCreamery$Tub" "soft" "I", Cond.fieldLink RX2 18 "ColdCreamery$Tub" "sold" "I", Cond.methodLink RX3 134 yX0_runHours, Cond.instanceMethod yX0_runHours, Cond.selects RX0 yX0_runHours yX0_runHours, Cond.code yX0_runHours cX0_runHours 3 none]
def wsX3_foresee_r3 : List Cond := [Cond.methodLink RX0 80 yX0_runHour, Cond.instanceMethod yX0_runHour, Cond.selects RX0 yX0_runHour yX0_runHour, Cond.code yX0_runHour cX0_runHour 3 none, Cond.methodLink RX0 45 yX0_heatAt, Cond.instanceMethod yX0_heatAt, Cond.selects RX0 yX0_heatAt yX0_heatAt, Cond.code yX0_heatAt cX0_heatAt 2 (some .int), Cond.methodLink RX0 62 yJ9_floorMod_7cf53, Cond.static yJ9_floorMod_7cf53, Cond.initialized RJ9, Cond.code yJ9_floorMod_7cf53 cJ9_floorMod_7cf53 3 (some .int), Cond.methodLink RX0 86 yX1_turn, Cond.instanceMethod yX1_turn, Cond.selects RX1 yX1_turn yX1_turn, Cond.code yX1_turn cX1_turn 2 none, Cond.static yX3_firmAfterHour, Cond.code yX3_firmAfterHour cX3_firmAfterHour 2 (some .int), Cond.methodLink RX3 38 Lib.Math.min.name, Cond.static Lib.Math.min.name, Cond.initialized "java/lang/Math", Cond.code Lib.Math.min.name Lib.Math.min.code 2 (some .int), Cond.static yX3_coldAfterHour, Cond.code yX3_coldAfterHour cX3_coldAfterHour 2 (some .int)]
def wsX3_foresee_r4 : List Cond := [Cond.methodLink RX3 153 Lib.Math.max.name, Cond.static Lib.Math.max.name, Cond.code Lib.Math.max.name Lib.Math.max.code 2 (some .int), Cond.methodLink RX0 90 yX2_standInHeat, Cond.instanceMethod yX2_standInHeat, Cond.selects RX2 yX2_standInHeat yX2_standInHeat, Cond.code yX2_standInHeat cX2_standInHeat 3 none, Cond.methodLink RX2 21 Lib.Math.min.name, Cond.methodLink RX2 27 Lib.Math.max.name, Cond.methodLink RX0 94 yX0_servePeople, Cond.instanceMethod yX0_servePeople, Cond.selects RX0 yX0_servePeople yX0_servePeople, Cond.code yX0_servePeople cX0_servePeople 5 none, Cond.methodLink RX0 104 yX0_serveOne, Cond.instanceMethod yX0_serveOne, Cond.selects RX0 yX0_serveOne yX0_serveOne, Cond.code yX0_serveOne cX0_serveOne 2 none, Cond.methodLink RX0 107 yX0_sellingTub, Cond.instanceMethod yX0_sellingTub, Cond.selects RX0 yX0_sellingTub yX0_sellingTub, Cond.code yX0_sellingTub cX0_sellingTub 4 (some .int), Cond.methodLink RX0 110 yX2_sellScoop, Cond.instanceMethod yX2_sellScoop, Cond.selects RX2 yX2_sellScoop yX2_sellScoop]
def wsX3_foresee_r5 : List Cond := [Cond.code yX2_sellScoop cX2_sellScoop 1 (some .int), Cond.static yX3_iceAfterHour, Cond.code yX3_iceAfterHour cX3_iceAfterHour 3 (some .int), Cond.methodLink RX0 101 yX2_forgetSoftnessIfEmpty, Cond.instanceMethod yX2_forgetSoftnessIfEmpty, Cond.selects RX2 yX2_forgetSoftnessIfEmpty yX2_forgetSoftnessIfEmpty, Cond.code yX2_forgetSoftnessIfEmpty cX2_forgetSoftnessIfEmpty 1 none, Cond.methodLink RX3 123 yX0_number, Cond.instanceMethod yX0_number, Cond.selects RX0 yX0_number yX0_number, Cond.code yX0_number cX0_number 2 (some .int), Cond.methodLink RX0 52 yX0_scoopsInTubs, Cond.instanceMethod yX0_scoopsInTubs, Cond.selects RX0 yX0_scoopsInTubs yX0_scoopsInTubs, Cond.code yX0_scoopsInTubs cX0_scoopsInTubs 3 (some .int), Cond.methodLink RX0 56 yX0_soldScoops, Cond.instanceMethod yX0_soldScoops, Cond.selects RX0 yX0_soldScoops yX0_soldScoops, Cond.code yX0_soldScoops cX0_soldScoops 3 (some .int)]
def wsX3_foresee : List Cond := .code yX3_foresee cX3_foresee 3 (some .int) :: ((wsX3_foresee_r1 ++ (wsX3_foresee_r2 ++ (wsX3_foresee_r3 ++ (wsX3_foresee_r4 ++ wsX3_foresee_r5)))) ++ wsX30 ++ wsX00 ++ wsX10 ++ wsX20 ++ (vx_atS RX3 23 "java/lang/IndexOutOfBoundsException" ["java/lang/RuntimeException", "java/lang/Exception"]).filter goodWord ++ (vx_atS RX3 30 "java/lang/IllegalArgumentException" ["java/lang/RuntimeException", "java/lang/Exception"]).filter goodWord)
def wsX3_lasts : List Cond := .code yX3_lasts cX3_lasts 1 (some .int) :: ([.fieldLink RX3 10 "ColdCreamery" "cellar" "LColdCreamery$Cellar;", .methodLink RX3 147 yX0_hoursUntilNoIce, .instanceMethod yX0_hoursUntilNoIce, .selects RX0 yX0_hoursUntilNoIce yX0_hoursUntilNoIce, .initialized RX0, .code yX0_hoursUntilNoIce cX0_hoursUntilNoIce 3 (some .int), .fieldLink RX0 13 "ColdCreamery$Cellar" "stock" "[I", .fieldLink RX0 41 "ColdCreamery$Cellar" "hour" "I", .methodLink RX0 45 yX0_heatAt, .instanceMethod yX0_heatAt, .selects RX0 yX0_heatAt yX0_heatAt, .code yX0_heatAt cX0_heatAt 2 (some .int), .fieldLink RX0 18 "ColdCreamery$Cellar" "heats" "[I", .methodLink RX0 62 yJ9_floorMod_7cf53, .static yJ9_floorMod_7cf53, .initialized RJ9, .code yJ9_floorMod_7cf53 cJ9_floorMod_7cf53 3 (some .int), .static yX3_iceAfterHour, .initialized RX3, .code yX3_iceAfterHour cX3_iceAfterHour 3 (some .int), .methodLink RX3 153 Lib.Math.max.name, .static Lib.Math.max.name, .initialized "java/lang/Math", .code Lib.Math.max.name Lib.Math.max.code 2 (some .int)] ++ wsX30 ++ wsX00)
def wsX3_salt : List Cond := .code yX3_salt cX3_salt 6 (some .int) :: ([.methodLink RX3 153 Lib.Math.max.name, .static Lib.Math.max.name, .initialized "java/lang/Math", .code Lib.Math.max.name Lib.Math.max.code 2 (some .int), .methodLink RX3 38 Lib.Math.min.name, .static Lib.Math.min.name, .code Lib.Math.min.name Lib.Math.min.code 2 (some .int), .methodLink RX3 65 yX3_existingChurn, .instanceMethod yX3_existingChurn, .selects RX3 yX3_existingChurn yX3_existingChurn, .initialized RX3, .code yX3_existingChurn cX3_existingChurn 2 (some (.object "ColdCreamery$Churn")), .classLink RX3 19 "java/lang/IndexOutOfBoundsException", .initialized "java/lang/IndexOutOfBoundsException", .fieldLink RX3 10 "ColdCreamery" "cellar" "LColdCreamery$Cellar;", .methodLink RX3 69 yX3_checkPacked, .static yX3_checkPacked, .code yX3_checkPacked cX3_checkPacked 1 none, .classLink RX3 26 "java/lang/IllegalArgumentException", .initialized "java/lang/IllegalArgumentException", .methodLink RX3 150 yX3_coldOfIce, .static yX3_coldOfIce, .code yX3_coldOfIce cX3_coldOfIce 1 (some .int)] ++ wsX10 ++ wsX30 ++ wsX00 ++ (vx_atS RX3 23 "java/lang/IndexOutOfBoundsException" ["java/lang/RuntimeException", "java/lang/Exception"]).filter goodWord ++ (vx_atS RX3 30 "java/lang/IllegalArgumentException" ["java/lang/RuntimeException", "java/lang/Exception"]).filter goodWord)
def wsX3_share : List Cond := .code yX3_share cX3_share 3 (some .double) :: ([.fieldLink RX3 10 "ColdCreamery" "cellar" "LColdCreamery$Cellar;", .methodLink RX3 156 yX0_soldScoops, .instanceMethod yX0_soldScoops, .selects RX0 yX0_soldScoops yX0_soldScoops, .initialized RX0, .code yX0_soldScoops cX0_soldScoops 3 (some .int), .fieldLink RX0 68 "ColdCreamery$Cellar" "tubCount" "I", .fieldLink RX0 29 "ColdCreamery$Cellar" "tubs" "[LColdCreamery$Tub;"] ++ wsX30 ++ wsX00 ++ wsX20)
def wsX3_mixed : List Cond := .code yX3_mixed cX3_mixed 4 (some .long) :: ([.constantLong RX3 184 (31)])
def wsX3_digest_r1 : List Cond := [Cond.constantLong RX3 162 (1103), Cond.fieldLink RX3 10 "ColdCreamery" "cellar" "LColdCreamery$Cellar;", Cond.methodLink RX3 123 yX0_number, Cond.instanceMethod yX0_number, Cond.selects RX0 yX0_number yX0_number, Cond.initialized RX0, Cond.code yX0_number cX0_number 2 (some .int), Cond.fieldLink RX0 41 "ColdCreamery$Cellar" "hour" "I", Cond.fieldLink RX0 13 "ColdCreamery$Cellar" "stock" "[I", Cond.fieldLink RX0 49 "ColdCreamery$Cellar" "coins" "I", Cond.fieldLink RX0 59 "ColdCreamery$Cellar" "sentAway" "I", Cond.methodLink RX0 45 yX0_heatAt, Cond.instanceMethod yX0_heatAt, Cond.selects RX0 yX0_heatAt yX0_heatAt, Cond.code yX0_heatAt cX0_heatAt 2 (some .int), Cond.fieldLink RX0 18 "ColdCreamery$Cellar" "heats" "[I", Cond.methodLink RX0 62 yJ9_floorMod_7cf53, Cond.static yJ9_floorMod_7cf53, Cond.initialized RJ9, Cond.code yJ9_floorMod_7cf53 cJ9_floorMod_7cf53 3 (some .int), Cond.methodLink RX0 52 yX0_scoopsInTubs, Cond.instanceMethod yX0_scoopsInTubs, Cond.selects RX0 yX0_scoopsInTubs yX0_scoopsInTubs, Cond.code yX0_scoopsInTubs cX0_scoopsInTubs 3 (some .int)]
def wsX3_digest_r2 : List Cond := [Cond.fieldLink RX0 68 "ColdCreamery$Cellar" "tubCount" "I", Cond.fieldLink RX0 29 "ColdCreamery$Cellar" "tubs" "[LColdCreamery$Tub;", Cond.methodLink RX0 56 yX0_soldScoops, Cond.instanceMethod yX0_soldScoops, Cond.selects RX0 yX0_soldScoops yX0_soldScoops, Cond.code yX0_soldScoops cX0_soldScoops 3 (some .int), Cond.methodLink RX3 164 yX3_mixed, Cond.static yX3_mixed, Cond.initialized RX3, Cond.code yX3_mixed cX3_mixed 4 (some .long), Cond.constantLong RX3 184 (31), Cond.methodLink RX3 116 yX1_number, Cond.instanceMethod yX1_number, Cond.selects RX1 yX1_number yX1_number, Cond.initialized RX1, Cond.code yX1_number cX1_number 2 (some .int), Cond.fieldLink RX1 7 "ColdCreamery$Churn" "cold" "I", Cond.fieldLink RX1 13 "ColdCreamery$Churn" "cream" "I", Cond.fieldLink RX1 16 "ColdCreamery$Churn" "firm" "I", Cond.methodLink RX3 120 yX2_number, Cond.instanceMethod yX2_number, Cond.selects RX2 yX2_number yX2_number, Cond.initialized RX2, Cond.code yX2_number cX2_number 2 (some .int)]
def wsX3_digest_r3 : List Cond := [Cond.fieldLink RX2 9 "ColdCreamery$Tub" "scoops" "I", Cond.fieldLink RX2 15 "ColdCreamery$Tub" "soft" "I", Cond.fieldLink RX2 18 "ColdCreamery$Tub" "sold" "I"]
def wsX3_digest : List Cond := .code yX3_digest cX3_digest 5 (some .long) :: ((wsX3_digest_r1 ++ (wsX3_digest_r2 ++ wsX3_digest_r3)) ++ wsX30 ++ wsX00 ++ wsX20 ++ wsX10)
def wsX4_init : List Cond := .code yX4_init cX4_init 1 none :: ([.methodLink RX4 3 objectInit, .instanceMethod objectInit, .code objectInit ⟨#[0xb1]⟩ 1 none, .arrayClass .int, .fieldLink RX4 9 "ColdCreameryModel" "s" "[I", .fieldLink RX4 13 "ColdCreameryModel" "kept" "[I", .fieldLink RX4 16 "ColdCreameryModel" "heat" "[I"] ++ wsX40)
def wsX4_thrown : List Cond := .code yX4_thrown cX4_thrown 1 (some .int) :: ([.fieldLink RX4 19 "ColdCreameryModel" "thrown" "I"] ++ wsX40)
def wsX4_no : List Cond := .code yX4_no cX4_no 2 (some .int) :: ([.fieldLink RX4 19 "ColdCreameryModel" "thrown" "I"] ++ wsX40)
def wsX4_isIn : List Cond := .code yX4_isIn cX4_isIn 3 (some .boolean) :: ([])
def wsX4_isChurn : List Cond := .code yX4_isChurn cX4_isChurn 2 (some .boolean) :: ([.fieldLink RX4 23 "ColdCreameryModel" "churns" "I", .methodLink RX4 26 yX4_isIn, .static yX4_isIn, .initialized RX4, .code yX4_isIn cX4_isIn 3 (some .boolean)] ++ wsX40)
def wsX4_isTub : List Cond := .code yX4_isTub cX4_isTub 2 (some .boolean) :: ([.fieldLink RX4 30 "ColdCreameryModel" "tubs" "I", .methodLink RX4 26 yX4_isIn, .static yX4_isIn, .initialized RX4, .code yX4_isIn cX4_isIn 3 (some .boolean)] ++ wsX40)
def wsX4_ch : List Cond := .code yX4_ch cX4_ch 3 (some .int) :: ([.fieldLink RX4 9 "ColdCreameryModel" "s" "[I"] ++ wsX40)
def wsX4_tu : List Cond := .code yX4_tu cX4_tu 3 (some .int) :: ([.fieldLink RX4 9 "ColdCreameryModel" "s" "[I"] ++ wsX40)
def wsX4_setChurn : List Cond := .code yX4_setChurn cX4_setChurn 4 none :: ([.fieldLink RX4 9 "ColdCreameryModel" "s" "[I"] ++ wsX40)
def wsX4_setTub : List Cond := .code yX4_setTub cX4_setTub 4 none :: ([.fieldLink RX4 9 "ColdCreameryModel" "s" "[I"] ++ wsX40)
def wsX4_bring : List Cond := .code yX4_bring cX4_bring 3 (some .int) :: ([.fieldLink RX4 19 "ColdCreameryModel" "thrown" "I", .fieldLink RX4 9 "ColdCreameryModel" "s" "[I", .fieldLink RX4 37 "ColdCreameryModel" "MOST" "[I", .methodLink RX4 40 Lib.Math.min.name, .static Lib.Math.min.name, .initialized "java/lang/Math", .code Lib.Math.min.name Lib.Math.min.code 2 (some .int), .methodLink RX4 26 yX4_isIn, .static yX4_isIn, .initialized RX4, .code yX4_isIn cX4_isIn 3 (some .boolean), .methodLink RX4 33 yX4_no, .instanceMethod yX4_no, .selects RX4 yX4_no yX4_no, .code yX4_no cX4_no 2 (some .int)] ++ wsX40)
def wsX4_setHeat : List Cond := .code yX4_setHeat cX4_setHeat 4 (some .int) :: ([.fieldLink RX4 19 "ColdCreameryModel" "thrown" "I", .fieldLink RX4 16 "ColdCreameryModel" "heat" "[I", .methodLink RX4 26 yX4_isIn, .static yX4_isIn, .initialized RX4, .code yX4_isIn cX4_isIn 3 (some .boolean), .methodLink RX4 33 yX4_no, .instanceMethod yX4_no, .selects RX4 yX4_no yX4_no, .code yX4_no cX4_no 2 (some .int)] ++ wsX40)
def wsX4_heatNow : List Cond := .code yX4_heatNow cX4_heatNow 1 (some .int) :: ([.fieldLink RX4 16 "ColdCreameryModel" "heat" "[I", .fieldLink RX4 9 "ColdCreameryModel" "s" "[I"] ++ wsX40)
def wsX4_churn : List Cond := .code yX4_churn cX4_churn 1 (some .int) :: ([.fieldLink RX4 19 "ColdCreameryModel" "thrown" "I", .fieldLink RX4 23 "ColdCreameryModel" "churns" "I", .methodLink RX4 33 yX4_no, .instanceMethod yX4_no, .selects RX4 yX4_no yX4_no, .initialized RX4, .code yX4_no cX4_no 2 (some .int)] ++ wsX40)
def wsX4_tub : List Cond := .code yX4_tub cX4_tub 1 (some .int) :: ([.fieldLink RX4 19 "ColdCreameryModel" "thrown" "I", .fieldLink RX4 30 "ColdCreameryModel" "tubs" "I", .methodLink RX4 33 yX4_no, .instanceMethod yX4_no, .selects RX4 yX4_no yX4_no, .initialized RX4, .code yX4_no cX4_no 2 (some .int)] ++ wsX40)
def wsX4_packed : List Cond := .code yX4_packed cX4_packed 4 (some .int) :: ([.methodLink RX4 40 Lib.Math.min.name, .static Lib.Math.min.name, .initialized "java/lang/Math", .code Lib.Math.min.name Lib.Math.min.code 2 (some .int), .methodLink RX4 46 yX4_ch, .instanceMethod yX4_ch, .selects RX4 yX4_ch yX4_ch, .initialized RX4, .code yX4_ch cX4_ch 3 (some .int), .fieldLink RX4 9 "ColdCreameryModel" "s" "[I"] ++ wsX40)
def wsX4_pack_r1 : List Cond := [Cond.fieldLink RX4 19 "ColdCreameryModel" "thrown" "I", Cond.fieldLink RX4 9 "ColdCreameryModel" "s" "[I", Cond.methodLink RX4 49 yX4_isChurn, Cond.instanceMethod yX4_isChurn, Cond.selects RX4 yX4_isChurn yX4_isChurn, Cond.initialized RX4, Cond.code yX4_isChurn cX4_isChurn 2 (some .boolean), Cond.fieldLink RX4 23 "ColdCreameryModel" "churns" "I", Cond.methodLink RX4 26 yX4_isIn, Cond.static yX4_isIn, Cond.code yX4_isIn cX4_isIn 3 (some .boolean), Cond.methodLink RX4 33 yX4_no, Cond.instanceMethod yX4_no, Cond.selects RX4 yX4_no yX4_no, Cond.code yX4_no cX4_no 2 (some .int), Cond.methodLink RX4 53 yX4_packed, Cond.instanceMethod yX4_packed, Cond.selects RX4 yX4_packed yX4_packed, Cond.code yX4_packed cX4_packed 4 (some .int), Cond.methodLink RX4 40 Lib.Math.min.name, Cond.static Lib.Math.min.name, Cond.initialized "java/lang/Math", Cond.code Lib.Math.min.name Lib.Math.min.code 2 (some .int), Cond.methodLink RX4 46 yX4_ch]
def wsX4_pack_r2 : List Cond := [Cond.instanceMethod yX4_ch, Cond.selects RX4 yX4_ch yX4_ch, Cond.code yX4_ch cX4_ch 3 (some .int), Cond.methodLink RX4 57 yX4_setChurn, Cond.instanceMethod yX4_setChurn, Cond.selects RX4 yX4_setChurn yX4_setChurn, Cond.code yX4_setChurn cX4_setChurn 4 none]
def wsX4_pack : List Cond := .code yX4_pack cX4_pack 4 (some .int) :: ((wsX4_pack_r1 ++ wsX4_pack_r2) ++ wsX40)
def wsX4_pour : List Cond := .code yX4_pour cX4_pour 4 (some .int) :: ([.fieldLink RX4 19 "ColdCreameryModel" "thrown" "I", .fieldLink RX4 9 "ColdCreameryModel" "s" "[I", .methodLink RX4 49 yX4_isChurn, .instanceMethod yX4_isChurn, .selects RX4 yX4_isChurn yX4_isChurn, .initialized RX4, .code yX4_isChurn cX4_isChurn 2 (some .boolean), .fieldLink RX4 23 "ColdCreameryModel" "churns" "I", .methodLink RX4 26 yX4_isIn, .static yX4_isIn, .code yX4_isIn cX4_isIn 3 (some .boolean), .methodLink RX4 33 yX4_no, .instanceMethod yX4_no, .selects RX4 yX4_no yX4_no, .code yX4_no cX4_no 2 (some .int), .methodLink RX4 46 yX4_ch, .instanceMethod yX4_ch, .selects RX4 yX4_ch yX4_ch, .code yX4_ch cX4_ch 3 (some .int), .methodLink RX4 57 yX4_setChurn, .instanceMethod yX4_setChurn, .selects RX4 yX4_setChurn yX4_setChurn, .code yX4_setChurn cX4_setChurn 4 none] ++ wsX40)
def wsX4_scoop_r1 : List Cond := [Cond.fieldLink RX4 19 "ColdCreameryModel" "thrown" "I", Cond.methodLink RX4 40 Lib.Math.min.name, Cond.static Lib.Math.min.name, Cond.initialized "java/lang/Math", Cond.code Lib.Math.min.name Lib.Math.min.code 2 (some .int), Cond.methodLink RX4 70 Lib.Math.max.name, Cond.static Lib.Math.max.name, Cond.code Lib.Math.max.name Lib.Math.max.code 2 (some .int), Cond.methodLink RX4 49 yX4_isChurn, Cond.instanceMethod yX4_isChurn, Cond.selects RX4 yX4_isChurn yX4_isChurn, Cond.initialized RX4, Cond.code yX4_isChurn cX4_isChurn 2 (some .boolean), Cond.fieldLink RX4 23 "ColdCreameryModel" "churns" "I", Cond.methodLink RX4 26 yX4_isIn, Cond.static yX4_isIn, Cond.code yX4_isIn cX4_isIn 3 (some .boolean), Cond.methodLink RX4 61 yX4_isTub, Cond.instanceMethod yX4_isTub, Cond.selects RX4 yX4_isTub yX4_isTub, Cond.code yX4_isTub cX4_isTub 2 (some .boolean), Cond.fieldLink RX4 30 "ColdCreameryModel" "tubs" "I", Cond.methodLink RX4 33 yX4_no, Cond.instanceMethod yX4_no]
def wsX4_scoop_r2 : List Cond := [Cond.selects RX4 yX4_no yX4_no, Cond.code yX4_no cX4_no 2 (some .int), Cond.methodLink RX4 46 yX4_ch, Cond.instanceMethod yX4_ch, Cond.selects RX4 yX4_ch yX4_ch, Cond.code yX4_ch cX4_ch 3 (some .int), Cond.fieldLink RX4 9 "ColdCreameryModel" "s" "[I", Cond.methodLink RX4 64 yX4_tu, Cond.instanceMethod yX4_tu, Cond.selects RX4 yX4_tu yX4_tu, Cond.code yX4_tu cX4_tu 3 (some .int), Cond.methodLink RX4 67 yX4_setTub, Cond.instanceMethod yX4_setTub, Cond.selects RX4 yX4_setTub yX4_setTub, Cond.code yX4_setTub cX4_setTub 4 none, Cond.methodLink RX4 57 yX4_setChurn, Cond.instanceMethod yX4_setChurn, Cond.selects RX4 yX4_setChurn yX4_setChurn, Cond.code yX4_setChurn cX4_setChurn 4 none]
def wsX4_scoop : List Cond := .code yX4_scoop cX4_scoop 3 (some .int) :: ((wsX4_scoop_r1 ++ wsX4_scoop_r2) ++ wsX40)
def wsX4_told : List Cond := .code yX4_told cX4_told 3 (some .int) :: ([.fieldLink RX4 19 "ColdCreameryModel" "thrown" "I", .methodLink RX4 49 yX4_isChurn, .instanceMethod yX4_isChurn, .selects RX4 yX4_isChurn yX4_isChurn, .initialized RX4, .code yX4_isChurn cX4_isChurn 2 (some .boolean), .fieldLink RX4 23 "ColdCreameryModel" "churns" "I", .methodLink RX4 26 yX4_isIn, .static yX4_isIn, .code yX4_isIn cX4_isIn 3 (some .boolean), .methodLink RX4 46 yX4_ch, .instanceMethod yX4_ch, .selects RX4 yX4_ch yX4_ch, .code yX4_ch cX4_ch 3 (some .int), .fieldLink RX4 9 "ColdCreameryModel" "s" "[I", .methodLink RX4 33 yX4_no, .instanceMethod yX4_no, .selects RX4 yX4_no yX4_no, .code yX4_no cX4_no 2 (some .int)] ++ wsX40)
def wsX4_about : List Cond := .code yX4_about cX4_about 3 (some .int) :: ([.fieldLink RX4 19 "ColdCreameryModel" "thrown" "I", .methodLink RX4 61 yX4_isTub, .instanceMethod yX4_isTub, .selects RX4 yX4_isTub yX4_isTub, .initialized RX4, .code yX4_isTub cX4_isTub 2 (some .boolean), .fieldLink RX4 30 "ColdCreameryModel" "tubs" "I", .methodLink RX4 26 yX4_isIn, .static yX4_isIn, .code yX4_isIn cX4_isIn 3 (some .boolean), .methodLink RX4 64 yX4_tu, .instanceMethod yX4_tu, .selects RX4 yX4_tu yX4_tu, .code yX4_tu cX4_tu 3 (some .int), .fieldLink RX4 9 "ColdCreameryModel" "s" "[I", .methodLink RX4 33 yX4_no, .instanceMethod yX4_no, .selects RX4 yX4_no yX4_no, .code yX4_no cX4_no 2 (some .int)] ++ wsX40)
def wsX4_sum : List Cond := .code yX4_sum cX4_sum 4 (some .int) :: ([.fieldLink RX4 30 "ColdCreameryModel" "tubs" "I", .methodLink RX4 64 yX4_tu, .instanceMethod yX4_tu, .selects RX4 yX4_tu yX4_tu, .initialized RX4, .code yX4_tu cX4_tu 3 (some .int), .fieldLink RX4 9 "ColdCreameryModel" "s" "[I"] ++ wsX40)
def wsX4_counted : List Cond := .code yX4_counted cX4_counted 3 (some .int) :: ([.arrayClass .int, .fieldLink RX4 9 "ColdCreameryModel" "s" "[I", .methodLink RX4 73 yX4_heatNow, .instanceMethod yX4_heatNow, .selects RX4 yX4_heatNow yX4_heatNow, .initialized RX4, .code yX4_heatNow cX4_heatNow 1 (some .int), .fieldLink RX4 16 "ColdCreameryModel" "heat" "[I", .methodLink RX4 77 yX4_sum, .instanceMethod yX4_sum, .selects RX4 yX4_sum yX4_sum, .code yX4_sum cX4_sum 4 (some .int), .fieldLink RX4 30 "ColdCreameryModel" "tubs" "I", .methodLink RX4 64 yX4_tu, .instanceMethod yX4_tu, .selects RX4 yX4_tu yX4_tu, .code yX4_tu cX4_tu 3 (some .int)] ++ wsX40)
def wsX4_count_r1 : List Cond := [Cond.fieldLink RX4 19 "ColdCreameryModel" "thrown" "I", Cond.methodLink RX4 26 yX4_isIn, Cond.static yX4_isIn, Cond.initialized RX4, Cond.code yX4_isIn cX4_isIn 3 (some .boolean), Cond.methodLink RX4 80 yX4_counted, Cond.instanceMethod yX4_counted, Cond.selects RX4 yX4_counted yX4_counted, Cond.code yX4_counted cX4_counted 3 (some .int), Cond.arrayClass .int, Cond.fieldLink RX4 9 "ColdCreameryModel" "s" "[I", Cond.methodLink RX4 73 yX4_heatNow, Cond.instanceMethod yX4_heatNow, Cond.selects RX4 yX4_heatNow yX4_heatNow, Cond.code yX4_heatNow cX4_heatNow 1 (some .int), Cond.fieldLink RX4 16 "ColdCreameryModel" "heat" "[I", Cond.methodLink RX4 77 yX4_sum, Cond.instanceMethod yX4_sum, Cond.selects RX4 yX4_sum yX4_sum, Cond.code yX4_sum cX4_sum 4 (some .int), Cond.fieldLink RX4 30 "ColdCreameryModel" "tubs" "I", Cond.methodLink RX4 64 yX4_tu, Cond.instanceMethod yX4_tu, Cond.selects RX4 yX4_tu yX4_tu]
def wsX4_count_r2 : List Cond := [Cond.code yX4_tu cX4_tu 3 (some .int), Cond.methodLink RX4 33 yX4_no, Cond.instanceMethod yX4_no, Cond.selects RX4 yX4_no yX4_no, Cond.code yX4_no cX4_no 2 (some .int)]
def wsX4_count : List Cond := .code yX4_count cX4_count 2 (some .int) :: ((wsX4_count_r1 ++ wsX4_count_r2) ++ wsX40)
def wsX4_nextTub : List Cond := .code yX4_nextTub cX4_nextTub 3 (some .int) :: ([.fieldLink RX4 30 "ColdCreameryModel" "tubs" "I", .methodLink RX4 64 yX4_tu, .instanceMethod yX4_tu, .selects RX4 yX4_tu yX4_tu, .initialized RX4, .code yX4_tu cX4_tu 3 (some .int), .fieldLink RX4 9 "ColdCreameryModel" "s" "[I"] ++ wsX40)
def wsX4_next : List Cond := .code yX4_next cX4_next 1 (some .int) :: ([.fieldLink RX4 19 "ColdCreameryModel" "thrown" "I", .methodLink RX4 83 yX4_nextTub, .instanceMethod yX4_nextTub, .selects RX4 yX4_nextTub yX4_nextTub, .initialized RX4, .code yX4_nextTub cX4_nextTub 3 (some .int), .fieldLink RX4 30 "ColdCreameryModel" "tubs" "I", .methodLink RX4 64 yX4_tu, .instanceMethod yX4_tu, .selects RX4 yX4_tu yX4_tu, .code yX4_tu cX4_tu 3 (some .int), .fieldLink RX4 9 "ColdCreameryModel" "s" "[I"] ++ wsX40)
def wsX4_firmUp : List Cond := .code yX4_firmUp cX4_firmUp 3 none :: ([.methodLink RX4 40 Lib.Math.min.name, .static Lib.Math.min.name, .initialized "java/lang/Math", .code Lib.Math.min.name Lib.Math.min.code 2 (some .int), .methodLink RX4 70 Lib.Math.max.name, .static Lib.Math.max.name, .code Lib.Math.max.name Lib.Math.max.code 2 (some .int), .methodLink RX4 46 yX4_ch, .instanceMethod yX4_ch, .selects RX4 yX4_ch yX4_ch, .initialized RX4, .code yX4_ch cX4_ch 3 (some .int), .fieldLink RX4 9 "ColdCreameryModel" "s" "[I", .methodLink RX4 57 yX4_setChurn, .instanceMethod yX4_setChurn, .selects RX4 yX4_setChurn yX4_setChurn, .code yX4_setChurn cX4_setChurn 4 none] ++ wsX40)
def wsX4_soften : List Cond := .code yX4_soften cX4_soften 4 none :: ([.fieldLink RX4 9 "ColdCreameryModel" "s" "[I", .methodLink RX4 40 Lib.Math.min.name, .static Lib.Math.min.name, .initialized "java/lang/Math", .code Lib.Math.min.name Lib.Math.min.code 2 (some .int), .methodLink RX4 70 Lib.Math.max.name, .static Lib.Math.max.name, .code Lib.Math.max.name Lib.Math.max.code 2 (some .int), .methodLink RX4 64 yX4_tu, .instanceMethod yX4_tu, .selects RX4 yX4_tu yX4_tu, .initialized RX4, .code yX4_tu cX4_tu 3 (some .int), .methodLink RX4 67 yX4_setTub, .instanceMethod yX4_setTub, .selects RX4 yX4_setTub yX4_setTub, .code yX4_setTub cX4_setTub 4 none] ++ wsX40)
def wsX4_sell : List Cond := .code yX4_sell cX4_sell 2 none :: ([.fieldLink RX4 9 "ColdCreameryModel" "s" "[I", .methodLink RX4 83 yX4_nextTub, .instanceMethod yX4_nextTub, .selects RX4 yX4_nextTub yX4_nextTub, .initialized RX4, .code yX4_nextTub cX4_nextTub 3 (some .int), .fieldLink RX4 30 "ColdCreameryModel" "tubs" "I", .methodLink RX4 64 yX4_tu, .instanceMethod yX4_tu, .selects RX4 yX4_tu yX4_tu, .code yX4_tu cX4_tu 3 (some .int), .methodLink RX4 67 yX4_setTub, .instanceMethod yX4_setTub, .selects RX4 yX4_setTub yX4_setTub, .code yX4_setTub cX4_setTub 4 none] ++ wsX40)
def wsX4_hourOn_r1 : List Cond := [Cond.fieldLink RX4 23 "ColdCreameryModel" "churns" "I", Cond.fieldLink RX4 30 "ColdCreameryModel" "tubs" "I", Cond.fieldLink RX4 9 "ColdCreameryModel" "s" "[I", Cond.methodLink RX4 70 Lib.Math.max.name, Cond.static Lib.Math.max.name, Cond.initialized "java/lang/Math", Cond.code Lib.Math.max.name Lib.Math.max.code 2 (some .int), Cond.methodLink RX4 73 yX4_heatNow, Cond.instanceMethod yX4_heatNow, Cond.selects RX4 yX4_heatNow yX4_heatNow, Cond.initialized RX4, Cond.code yX4_heatNow cX4_heatNow 1 (some .int), Cond.fieldLink RX4 16 "ColdCreameryModel" "heat" "[I", Cond.methodLink RX4 86 yX4_firmUp, Cond.instanceMethod yX4_firmUp, Cond.selects RX4 yX4_firmUp yX4_firmUp, Cond.code yX4_firmUp cX4_firmUp 3 none, Cond.methodLink RX4 40 Lib.Math.min.name, Cond.static Lib.Math.min.name, Cond.code Lib.Math.min.name Lib.Math.min.code 2 (some .int), Cond.methodLink RX4 46 yX4_ch, Cond.instanceMethod yX4_ch, Cond.selects RX4 yX4_ch yX4_ch, Cond.code yX4_ch cX4_ch 3 (some .int)]
def wsX4_hourOn_r2 : List Cond := [Cond.methodLink RX4 57 yX4_setChurn, Cond.instanceMethod yX4_setChurn, Cond.selects RX4 yX4_setChurn yX4_setChurn, Cond.code yX4_setChurn cX4_setChurn 4 none, Cond.methodLink RX4 90 yX4_soften, Cond.instanceMethod yX4_soften, Cond.selects RX4 yX4_soften yX4_soften, Cond.code yX4_soften cX4_soften 4 none, Cond.methodLink RX4 64 yX4_tu, Cond.instanceMethod yX4_tu, Cond.selects RX4 yX4_tu yX4_tu, Cond.code yX4_tu cX4_tu 3 (some .int), Cond.methodLink RX4 67 yX4_setTub, Cond.instanceMethod yX4_setTub, Cond.selects RX4 yX4_setTub yX4_setTub, Cond.code yX4_setTub cX4_setTub 4 none, Cond.methodLink RX4 26 yX4_isIn, Cond.static yX4_isIn, Cond.code yX4_isIn cX4_isIn 3 (some .boolean), Cond.methodLink RX4 93 yX4_sell, Cond.instanceMethod yX4_sell, Cond.selects RX4 yX4_sell yX4_sell, Cond.code yX4_sell cX4_sell 2 none, Cond.methodLink RX4 83 yX4_nextTub]
def wsX4_hourOn_r3 : List Cond := [Cond.instanceMethod yX4_nextTub, Cond.selects RX4 yX4_nextTub yX4_nextTub, Cond.code yX4_nextTub cX4_nextTub 3 (some .int)]
def wsX4_hourOn : List Cond := .code yX4_hourOn cX4_hourOn 3 none :: ((wsX4_hourOn_r1 ++ (wsX4_hourOn_r2 ++ wsX4_hourOn_r3)) ++ wsX40)
def wsX4_pass_r1 : List Cond := [Cond.fieldLink RX4 19 "ColdCreameryModel" "thrown" "I", Cond.fieldLink RX4 9 "ColdCreameryModel" "s" "[I", Cond.methodLink RX4 26 yX4_isIn, Cond.static yX4_isIn, Cond.initialized RX4, Cond.code yX4_isIn cX4_isIn 3 (some .boolean), Cond.methodLink RX4 33 yX4_no, Cond.instanceMethod yX4_no, Cond.selects RX4 yX4_no yX4_no, Cond.code yX4_no cX4_no 2 (some .int), Cond.methodLink RX4 96 yX4_hourOn, Cond.instanceMethod yX4_hourOn, Cond.selects RX4 yX4_hourOn yX4_hourOn, Cond.code yX4_hourOn cX4_hourOn 3 none, Cond.fieldLink RX4 23 "ColdCreameryModel" "churns" "I", Cond.fieldLink RX4 30 "ColdCreameryModel" "tubs" "I", Cond.methodLink RX4 70 Lib.Math.max.name, Cond.static Lib.Math.max.name, Cond.initialized "java/lang/Math", Cond.code Lib.Math.max.name Lib.Math.max.code 2 (some .int), Cond.methodLink RX4 73 yX4_heatNow, Cond.instanceMethod yX4_heatNow, Cond.selects RX4 yX4_heatNow yX4_heatNow, Cond.code yX4_heatNow cX4_heatNow 1 (some .int)]
def wsX4_pass_r2 : List Cond := [Cond.fieldLink RX4 16 "ColdCreameryModel" "heat" "[I", Cond.methodLink RX4 86 yX4_firmUp, Cond.instanceMethod yX4_firmUp, Cond.selects RX4 yX4_firmUp yX4_firmUp, Cond.code yX4_firmUp cX4_firmUp 3 none, Cond.methodLink RX4 40 Lib.Math.min.name, Cond.static Lib.Math.min.name, Cond.code Lib.Math.min.name Lib.Math.min.code 2 (some .int), Cond.methodLink RX4 46 yX4_ch, Cond.instanceMethod yX4_ch, Cond.selects RX4 yX4_ch yX4_ch, Cond.code yX4_ch cX4_ch 3 (some .int), Cond.methodLink RX4 57 yX4_setChurn, Cond.instanceMethod yX4_setChurn, Cond.selects RX4 yX4_setChurn yX4_setChurn, Cond.code yX4_setChurn cX4_setChurn 4 none, Cond.methodLink RX4 90 yX4_soften, Cond.instanceMethod yX4_soften, Cond.selects RX4 yX4_soften yX4_soften, Cond.code yX4_soften cX4_soften 4 none, Cond.methodLink RX4 64 yX4_tu, Cond.instanceMethod yX4_tu, Cond.selects RX4 yX4_tu yX4_tu, Cond.code yX4_tu cX4_tu 3 (some .int)]
def wsX4_pass_r3 : List Cond := [Cond.methodLink RX4 67 yX4_setTub, Cond.instanceMethod yX4_setTub, Cond.selects RX4 yX4_setTub yX4_setTub, Cond.code yX4_setTub cX4_setTub 4 none, Cond.methodLink RX4 93 yX4_sell, Cond.instanceMethod yX4_sell, Cond.selects RX4 yX4_sell yX4_sell, Cond.code yX4_sell cX4_sell 2 none, Cond.methodLink RX4 83 yX4_nextTub, Cond.instanceMethod yX4_nextTub, Cond.selects RX4 yX4_nextTub yX4_nextTub, Cond.code yX4_nextTub cX4_nextTub 3 (some .int)]
def wsX4_pass : List Cond := .code yX4_pass cX4_pass 4 (some .int) :: ((wsX4_pass_r1 ++ (wsX4_pass_r2 ++ wsX4_pass_r3)) ++ wsX40)
def wsX4_keep : List Cond := .code yX4_keep cX4_keep 1 none :: ([.fieldLink RX4 9 "ColdCreameryModel" "s" "[I", .fieldLink RX4 13 "ColdCreameryModel" "kept" "[I", .methodLink RX4 99 arraycopyName, .native arraycopyName, .static arraycopyName, .initialized "java/lang/System"] ++ wsX40)
def wsX4_bringBack : List Cond := .code yX4_bringBack cX4_bringBack 1 none :: ([.fieldLink RX4 13 "ColdCreameryModel" "kept" "[I", .fieldLink RX4 9 "ColdCreameryModel" "s" "[I", .methodLink RX4 99 arraycopyName, .native arraycopyName, .static arraycopyName, .initialized "java/lang/System"] ++ wsX40)
def wsX4_done_r1 : List Cond := [Cond.fieldLink RX4 19 "ColdCreameryModel" "thrown" "I", Cond.methodLink RX4 49 yX4_isChurn, Cond.instanceMethod yX4_isChurn, Cond.selects RX4 yX4_isChurn yX4_isChurn, Cond.initialized RX4, Cond.code yX4_isChurn cX4_isChurn 2 (some .boolean), Cond.fieldLink RX4 23 "ColdCreameryModel" "churns" "I", Cond.methodLink RX4 26 yX4_isIn, Cond.static yX4_isIn, Cond.code yX4_isIn cX4_isIn 3 (some .boolean), Cond.methodLink RX4 33 yX4_no, Cond.instanceMethod yX4_no, Cond.selects RX4 yX4_no yX4_no, Cond.code yX4_no cX4_no 2 (some .int), Cond.methodLink RX4 46 yX4_ch, Cond.instanceMethod yX4_ch, Cond.selects RX4 yX4_ch yX4_ch, Cond.code yX4_ch cX4_ch 3 (some .int), Cond.fieldLink RX4 9 "ColdCreameryModel" "s" "[I", Cond.methodLink RX4 105 yX4_keep, Cond.instanceMethod yX4_keep, Cond.selects RX4 yX4_keep yX4_keep, Cond.code yX4_keep cX4_keep 1 none, Cond.fieldLink RX4 13 "ColdCreameryModel" "kept" "[I"]
def wsX4_done_r2 : List Cond := [Cond.methodLink RX4 99 arraycopyName, Cond.native arraycopyName, Cond.static arraycopyName, Cond.initialized "java/lang/System", Cond.methodLink RX4 96 yX4_hourOn, Cond.instanceMethod yX4_hourOn, Cond.selects RX4 yX4_hourOn yX4_hourOn, Cond.code yX4_hourOn cX4_hourOn 3 none, Cond.fieldLink RX4 30 "ColdCreameryModel" "tubs" "I", Cond.methodLink RX4 70 Lib.Math.max.name, Cond.static Lib.Math.max.name, Cond.initialized "java/lang/Math", Cond.code Lib.Math.max.name Lib.Math.max.code 2 (some .int), Cond.methodLink RX4 73 yX4_heatNow, Cond.instanceMethod yX4_heatNow, Cond.selects RX4 yX4_heatNow yX4_heatNow, Cond.code yX4_heatNow cX4_heatNow 1 (some .int), Cond.fieldLink RX4 16 "ColdCreameryModel" "heat" "[I", Cond.methodLink RX4 86 yX4_firmUp, Cond.instanceMethod yX4_firmUp, Cond.selects RX4 yX4_firmUp yX4_firmUp, Cond.code yX4_firmUp cX4_firmUp 3 none, Cond.methodLink RX4 40 Lib.Math.min.name, Cond.static Lib.Math.min.name]
def wsX4_done_r3 : List Cond := [Cond.code Lib.Math.min.name Lib.Math.min.code 2 (some .int), Cond.methodLink RX4 57 yX4_setChurn, Cond.instanceMethod yX4_setChurn, Cond.selects RX4 yX4_setChurn yX4_setChurn, Cond.code yX4_setChurn cX4_setChurn 4 none, Cond.methodLink RX4 90 yX4_soften, Cond.instanceMethod yX4_soften, Cond.selects RX4 yX4_soften yX4_soften, Cond.code yX4_soften cX4_soften 4 none, Cond.methodLink RX4 64 yX4_tu, Cond.instanceMethod yX4_tu, Cond.selects RX4 yX4_tu yX4_tu, Cond.code yX4_tu cX4_tu 3 (some .int), Cond.methodLink RX4 67 yX4_setTub, Cond.instanceMethod yX4_setTub, Cond.selects RX4 yX4_setTub yX4_setTub, Cond.code yX4_setTub cX4_setTub 4 none, Cond.methodLink RX4 93 yX4_sell, Cond.instanceMethod yX4_sell, Cond.selects RX4 yX4_sell yX4_sell, Cond.code yX4_sell cX4_sell 2 none, Cond.methodLink RX4 83 yX4_nextTub, Cond.instanceMethod yX4_nextTub, Cond.selects RX4 yX4_nextTub yX4_nextTub]
def wsX4_done_r4 : List Cond := [Cond.code yX4_nextTub cX4_nextTub 3 (some .int), Cond.methodLink RX4 108 yX4_bringBack, Cond.instanceMethod yX4_bringBack, Cond.selects RX4 yX4_bringBack yX4_bringBack, Cond.code yX4_bringBack cX4_bringBack 1 none]
def wsX4_done : List Cond := .code yX4_done cX4_done 4 (some .int) :: ((wsX4_done_r1 ++ (wsX4_done_r2 ++ (wsX4_done_r3 ++ wsX4_done_r4))) ++ wsX40)
def wsX4_foresee_r1 : List Cond := [Cond.fieldLink RX4 19 "ColdCreameryModel" "thrown" "I", Cond.methodLink RX4 26 yX4_isIn, Cond.static yX4_isIn, Cond.initialized RX4, Cond.code yX4_isIn cX4_isIn 3 (some .boolean), Cond.methodLink RX4 33 yX4_no, Cond.instanceMethod yX4_no, Cond.selects RX4 yX4_no yX4_no, Cond.code yX4_no cX4_no 2 (some .int), Cond.methodLink RX4 105 yX4_keep, Cond.instanceMethod yX4_keep, Cond.selects RX4 yX4_keep yX4_keep, Cond.code yX4_keep cX4_keep 1 none, Cond.fieldLink RX4 9 "ColdCreameryModel" "s" "[I", Cond.fieldLink RX4 13 "ColdCreameryModel" "kept" "[I", Cond.methodLink RX4 99 arraycopyName, Cond.native arraycopyName, Cond.static arraycopyName, Cond.initialized "java/lang/System", Cond.methodLink RX4 96 yX4_hourOn, Cond.instanceMethod yX4_hourOn, Cond.selects RX4 yX4_hourOn yX4_hourOn, Cond.code yX4_hourOn cX4_hourOn 3 none, Cond.fieldLink RX4 23 "ColdCreameryModel" "churns" "I"]
def wsX4_foresee_r2 : List Cond := [Cond.fieldLink RX4 30 "ColdCreameryModel" "tubs" "I", Cond.methodLink RX4 70 Lib.Math.max.name, Cond.static Lib.Math.max.name, Cond.initialized "java/lang/Math", Cond.code Lib.Math.max.name Lib.Math.max.code 2 (some .int), Cond.methodLink RX4 73 yX4_heatNow, Cond.instanceMethod yX4_heatNow, Cond.selects RX4 yX4_heatNow yX4_heatNow, Cond.code yX4_heatNow cX4_heatNow 1 (some .int), Cond.fieldLink RX4 16 "ColdCreameryModel" "heat" "[I", Cond.methodLink RX4 86 yX4_firmUp, Cond.instanceMethod yX4_firmUp, Cond.selects RX4 yX4_firmUp yX4_firmUp, Cond.code yX4_firmUp cX4_firmUp 3 none, Cond.methodLink RX4 40 Lib.Math.min.name, Cond.static Lib.Math.min.name, Cond.code Lib.Math.min.name Lib.Math.min.code 2 (some .int), Cond.methodLink RX4 46 yX4_ch, Cond.instanceMethod yX4_ch, Cond.selects RX4 yX4_ch yX4_ch, Cond.code yX4_ch cX4_ch 3 (some .int), Cond.methodLink RX4 57 yX4_setChurn, Cond.instanceMethod yX4_setChurn, Cond.selects RX4 yX4_setChurn yX4_setChurn]
def wsX4_foresee_r3 : List Cond := [Cond.code yX4_setChurn cX4_setChurn 4 none, Cond.methodLink RX4 90 yX4_soften, Cond.instanceMethod yX4_soften, Cond.selects RX4 yX4_soften yX4_soften, Cond.code yX4_soften cX4_soften 4 none, Cond.methodLink RX4 64 yX4_tu, Cond.instanceMethod yX4_tu, Cond.selects RX4 yX4_tu yX4_tu, Cond.code yX4_tu cX4_tu 3 (some .int), Cond.methodLink RX4 67 yX4_setTub, Cond.instanceMethod yX4_setTub, Cond.selects RX4 yX4_setTub yX4_setTub, Cond.code yX4_setTub cX4_setTub 4 none, Cond.methodLink RX4 93 yX4_sell, Cond.instanceMethod yX4_sell, Cond.selects RX4 yX4_sell yX4_sell, Cond.code yX4_sell cX4_sell 2 none, Cond.methodLink RX4 83 yX4_nextTub, Cond.instanceMethod yX4_nextTub, Cond.selects RX4 yX4_nextTub yX4_nextTub, Cond.code yX4_nextTub cX4_nextTub 3 (some .int), Cond.methodLink RX4 80 yX4_counted, Cond.instanceMethod yX4_counted, Cond.selects RX4 yX4_counted yX4_counted]
def wsX4_foresee_r4 : List Cond := [Cond.code yX4_counted cX4_counted 3 (some .int), Cond.arrayClass .int, Cond.methodLink RX4 77 yX4_sum, Cond.instanceMethod yX4_sum, Cond.selects RX4 yX4_sum yX4_sum, Cond.code yX4_sum cX4_sum 4 (some .int), Cond.methodLink RX4 108 yX4_bringBack, Cond.instanceMethod yX4_bringBack, Cond.selects RX4 yX4_bringBack yX4_bringBack, Cond.code yX4_bringBack cX4_bringBack 1 none]
def wsX4_foresee : List Cond := .code yX4_foresee cX4_foresee 4 (some .int) :: ((wsX4_foresee_r1 ++ (wsX4_foresee_r2 ++ (wsX4_foresee_r3 ++ wsX4_foresee_r4))) ++ wsX40)
def wsX4_lasts : List Cond := .code yX4_lasts cX4_lasts 3 (some .int) :: ([.fieldLink RX4 19 "ColdCreameryModel" "thrown" "I", .fieldLink RX4 9 "ColdCreameryModel" "s" "[I", .fieldLink RX4 16 "ColdCreameryModel" "heat" "[I"] ++ wsX40)
def wsX4_salt_r1 : List Cond := [Cond.fieldLink RX4 19 "ColdCreameryModel" "thrown" "I", Cond.methodLink RX4 49 yX4_isChurn, Cond.instanceMethod yX4_isChurn, Cond.selects RX4 yX4_isChurn yX4_isChurn, Cond.initialized RX4, Cond.code yX4_isChurn cX4_isChurn 2 (some .boolean), Cond.fieldLink RX4 23 "ColdCreameryModel" "churns" "I", Cond.methodLink RX4 26 yX4_isIn, Cond.static yX4_isIn, Cond.code yX4_isIn cX4_isIn 3 (some .boolean), Cond.methodLink RX4 33 yX4_no, Cond.instanceMethod yX4_no, Cond.selects RX4 yX4_no yX4_no, Cond.code yX4_no cX4_no 2 (some .int), Cond.methodLink RX4 53 yX4_packed, Cond.instanceMethod yX4_packed, Cond.selects RX4 yX4_packed yX4_packed, Cond.code yX4_packed cX4_packed 4 (some .int), Cond.methodLink RX4 40 Lib.Math.min.name, Cond.static Lib.Math.min.name, Cond.initialized "java/lang/Math", Cond.code Lib.Math.min.name Lib.Math.min.code 2 (some .int), Cond.methodLink RX4 46 yX4_ch, Cond.instanceMethod yX4_ch]
def wsX4_salt_r2 : List Cond := [Cond.selects RX4 yX4_ch yX4_ch, Cond.code yX4_ch cX4_ch 3 (some .int), Cond.fieldLink RX4 9 "ColdCreameryModel" "s" "[I"]
def wsX4_salt : List Cond := .code yX4_salt cX4_salt 5 (some .int) :: ((wsX4_salt_r1 ++ wsX4_salt_r2) ++ wsX40)
def wsX4_share : List Cond := .code yX4_share cX4_share 2 (some .double) :: ([.fieldLink RX4 19 "ColdCreameryModel" "thrown" "I", .fieldLink RX4 9 "ColdCreameryModel" "s" "[I", .methodLink RX4 77 yX4_sum, .instanceMethod yX4_sum, .selects RX4 yX4_sum yX4_sum, .initialized RX4, .code yX4_sum cX4_sum 4 (some .int), .fieldLink RX4 30 "ColdCreameryModel" "tubs" "I", .methodLink RX4 64 yX4_tu, .instanceMethod yX4_tu, .selects RX4 yX4_tu yX4_tu, .code yX4_tu cX4_tu 3 (some .int)] ++ wsX40)
def wsX4_digest_r1 : List Cond := [Cond.fieldLink RX4 19 "ColdCreameryModel" "thrown" "I", Cond.constantLong RX4 111 (1103), Cond.constantLong RX4 113 (31), Cond.fieldLink RX4 16 "ColdCreameryModel" "heat" "[I", Cond.fieldLink RX4 23 "ColdCreameryModel" "churns" "I", Cond.fieldLink RX4 9 "ColdCreameryModel" "s" "[I", Cond.fieldLink RX4 30 "ColdCreameryModel" "tubs" "I", Cond.methodLink RX4 80 yX4_counted, Cond.instanceMethod yX4_counted, Cond.selects RX4 yX4_counted yX4_counted, Cond.initialized RX4, Cond.code yX4_counted cX4_counted 3 (some .int), Cond.arrayClass .int, Cond.methodLink RX4 73 yX4_heatNow, Cond.instanceMethod yX4_heatNow, Cond.selects RX4 yX4_heatNow yX4_heatNow, Cond.code yX4_heatNow cX4_heatNow 1 (some .int), Cond.methodLink RX4 77 yX4_sum, Cond.instanceMethod yX4_sum, Cond.selects RX4 yX4_sum yX4_sum, Cond.code yX4_sum cX4_sum 4 (some .int), Cond.methodLink RX4 64 yX4_tu, Cond.instanceMethod yX4_tu, Cond.selects RX4 yX4_tu yX4_tu]
def wsX4_digest_r2 : List Cond := [Cond.code yX4_tu cX4_tu 3 (some .int)]
def wsX4_digest : List Cond := .code yX4_digest cX4_digest 4 (some .long) :: ((wsX4_digest_r1 ++ wsX4_digest_r2) ++ wsX40)
def wsJ9_max_7cf53 : List Cond := .code yJ9_max_7cf53 cJ9_max_7cf53 2 (some .int) :: ([])
def wsJ9_min_7cf53 : List Cond := .code yJ9_min_7cf53 cJ9_min_7cf53 2 (some .int) :: ([])
def wsL_bring : List Cond := .codeWith yL_bring cL_bring 5 (some .int) [(0, 10, 13, 13), (0, 10, 17, 15)] :: ([.classLink RL 13 "java/lang/IndexOutOfBoundsException", .classLink RL 15 "java/lang/IllegalArgumentException", .methodLink RL 7 yX3_bring, .instanceMethod yX3_bring, .selects RX3 yX3_bring yX3_bring, .initialized RX3, .code yX3_bring cX3_bring 3 (some .int), .classLink RX3 19 "java/lang/IndexOutOfBoundsException", .initialized "java/lang/IndexOutOfBoundsException", .classLink RX3 26 "java/lang/IllegalArgumentException", .initialized "java/lang/IllegalArgumentException", .fieldLink RX3 10 "ColdCreamery" "cellar" "LColdCreamery$Cellar;", .fieldLink RX3 35 "ColdCreamery" "STOCK_LIMITS" "[I", .methodLink RX3 38 Lib.Math.min.name, .static Lib.Math.min.name, .initialized "java/lang/Math", .code Lib.Math.min.name Lib.Math.min.code 2 (some .int)] ++ wsX30 ++ wsX00 ++ (vx_atS RX3 23 "java/lang/IndexOutOfBoundsException" ["java/lang/RuntimeException", "java/lang/Exception"]).filter goodWord ++ (vx_atS RX3 30 "java/lang/IllegalArgumentException" ["java/lang/RuntimeException", "java/lang/Exception"]).filter goodWord)
def wsL_setHeat : List Cond := .codeWith yL_setHeat cL_setHeat 5 (some .int) [(0, 10, 13, 13), (0, 10, 17, 15)] :: ([.classLink RL 13 "java/lang/IndexOutOfBoundsException", .classLink RL 15 "java/lang/IllegalArgumentException", .methodLink RL 17 yX3_setHeat, .instanceMethod yX3_setHeat, .selects RX3 yX3_setHeat yX3_setHeat, .initialized RX3, .code yX3_setHeat cX3_setHeat 4 (some .int), .classLink RX3 19 "java/lang/IndexOutOfBoundsException", .initialized "java/lang/IndexOutOfBoundsException", .classLink RX3 26 "java/lang/IllegalArgumentException", .initialized "java/lang/IllegalArgumentException", .fieldLink RX3 10 "ColdCreamery" "cellar" "LColdCreamery$Cellar;"] ++ wsX30 ++ wsX00 ++ (vx_atS RX3 23 "java/lang/IndexOutOfBoundsException" ["java/lang/RuntimeException", "java/lang/Exception"]).filter goodWord ++ (vx_atS RX3 30 "java/lang/IllegalArgumentException" ["java/lang/RuntimeException", "java/lang/Exception"]).filter goodWord)
def wsL_churn : List Cond := .codeWith yL_churn cL_churn 3 (some .int) [(0, 8, 11, 24)] :: ([.classLink RL 24 "java/lang/IllegalStateException", .methodLink RL 20 yX3_churn, .instanceMethod yX3_churn, .selects RX3 yX3_churn yX3_churn, .initialized RX3, .code yX3_churn cX3_churn 2 (some .int), .classLink RX3 55 "java/lang/IllegalStateException", .initialized "java/lang/IllegalStateException", .fieldLink RX3 10 "ColdCreamery" "cellar" "LColdCreamery$Cellar;"] ++ wsX30 ++ wsX00 ++ (vx_atS RX3 59 "java/lang/IllegalStateException" ["java/lang/RuntimeException", "java/lang/Exception"]).filter goodWord)
def wsL_tub : List Cond := .codeWith yL_tub cL_tub 3 (some .int) [(0, 8, 11, 24)] :: ([.classLink RL 24 "java/lang/IllegalStateException", .methodLink RL 26 yX3_tub, .instanceMethod yX3_tub, .selects RX3 yX3_tub yX3_tub, .initialized RX3, .code yX3_tub cX3_tub 2 (some .int), .classLink RX3 55 "java/lang/IllegalStateException", .initialized "java/lang/IllegalStateException", .fieldLink RX3 10 "ColdCreamery" "cellar" "LColdCreamery$Cellar;"] ++ wsX30 ++ wsX00 ++ (vx_atS RX3 59 "java/lang/IllegalStateException" ["java/lang/RuntimeException", "java/lang/Exception"]).filter goodWord)
def wsL_pack_r1 : List Cond := [Cond.classLink RL 13 "java/lang/IndexOutOfBoundsException", Cond.classLink RL 15 "java/lang/IllegalArgumentException", Cond.classLink RL 24 "java/lang/IllegalStateException", Cond.methodLink RL 29 yX3_pack, Cond.instanceMethod yX3_pack, Cond.selects RX3 yX3_pack yX3_pack, Cond.initialized RX3, Cond.code yX3_pack cX3_pack 5 (some .int), Cond.classLink RX3 55 "java/lang/IllegalStateException", Cond.initialized "java/lang/IllegalStateException", Cond.fieldLink RX3 10 "ColdCreamery" "cellar" "LColdCreamery$Cellar;", Cond.methodLink RX3 65 yX3_existingChurn, Cond.instanceMethod yX3_existingChurn, Cond.selects RX3 yX3_existingChurn yX3_existingChurn, Cond.code yX3_existingChurn cX3_existingChurn 2 (some (.object "ColdCreamery$Churn")), Cond.classLink RX3 19 "java/lang/IndexOutOfBoundsException", Cond.initialized "java/lang/IndexOutOfBoundsException", Cond.methodLink RX3 69 yX3_checkPacked, Cond.static yX3_checkPacked, Cond.code yX3_checkPacked cX3_checkPacked 1 none, Cond.classLink RX3 26 "java/lang/IllegalArgumentException", Cond.initialized "java/lang/IllegalArgumentException", Cond.methodLink RX3 80 yX3_coldWithBrine, Cond.static yX3_coldWithBrine]
def wsL_pack_r2 : List Cond := [Cond.code yX3_coldWithBrine cX3_coldWithBrine 5 (some .int), Cond.methodLink RX3 38 Lib.Math.min.name, Cond.static Lib.Math.min.name, Cond.initialized "java/lang/Math", Cond.code Lib.Math.min.name Lib.Math.min.code 2 (some .int), Cond.methodLink RX3 150 yX3_coldOfIce, Cond.static yX3_coldOfIce, Cond.code yX3_coldOfIce cX3_coldOfIce 1 (some .int)]
def wsL_pack : List Cond := .codeWith yL_pack cL_pack 6 (some .int) [(0, 12, 15, 13), (0, 12, 19, 15), (0, 12, 23, 24)] :: ((wsL_pack_r1 ++ wsL_pack_r2) ++ wsX30 ++ wsX00 ++ wsX10 ++ (vx_atS RX3 59 "java/lang/IllegalStateException" ["java/lang/RuntimeException", "java/lang/Exception"]).filter goodWord ++ (vx_atS RX3 23 "java/lang/IndexOutOfBoundsException" ["java/lang/RuntimeException", "java/lang/Exception"]).filter goodWord ++ (vx_atS RX3 30 "java/lang/IllegalArgumentException" ["java/lang/RuntimeException", "java/lang/Exception"]).filter goodWord)
def wsL_pour_r1 : List Cond := [Cond.classLink RL 13 "java/lang/IndexOutOfBoundsException", Cond.classLink RL 15 "java/lang/IllegalArgumentException", Cond.classLink RL 24 "java/lang/IllegalStateException", Cond.methodLink RL 33 yX3_pour, Cond.instanceMethod yX3_pour, Cond.selects RX3 yX3_pour yX3_pour, Cond.initialized RX3, Cond.code yX3_pour cX3_pour 4 (some .int), Cond.classLink RX3 26 "java/lang/IllegalArgumentException", Cond.initialized "java/lang/IllegalArgumentException", Cond.classLink RX3 55 "java/lang/IllegalStateException", Cond.initialized "java/lang/IllegalStateException", Cond.fieldLink RX3 10 "ColdCreamery" "cellar" "LColdCreamery$Cellar;", Cond.methodLink RX3 65 yX3_existingChurn, Cond.instanceMethod yX3_existingChurn, Cond.selects RX3 yX3_existingChurn yX3_existingChurn, Cond.code yX3_existingChurn cX3_existingChurn 2 (some (.object "ColdCreamery$Churn")), Cond.classLink RX3 19 "java/lang/IndexOutOfBoundsException", Cond.initialized "java/lang/IndexOutOfBoundsException", Cond.methodLink RX3 93 yX1_add, Cond.instanceMethod yX1_add, Cond.selects RX1 yX1_add yX1_add, Cond.initialized RX1, Cond.code yX1_add cX1_add 3 none]
def wsL_pour_r2 : List Cond := [Cond.fieldLink RX1 13 "ColdCreamery$Churn" "cream" "I", Cond.fieldLink RX1 16 "ColdCreamery$Churn" "firm" "I"]
def wsL_pour : List Cond := .codeWith yL_pour cL_pour 5 (some .int) [(0, 10, 13, 13), (0, 10, 17, 15), (0, 10, 21, 24)] :: ((wsL_pour_r1 ++ wsL_pour_r2) ++ wsX30 ++ wsX00 ++ wsX10 ++ (vx_atS RX3 30 "java/lang/IllegalArgumentException" ["java/lang/RuntimeException", "java/lang/Exception"]).filter goodWord ++ (vx_atS RX3 59 "java/lang/IllegalStateException" ["java/lang/RuntimeException", "java/lang/Exception"]).filter goodWord ++ (vx_atS RX3 23 "java/lang/IndexOutOfBoundsException" ["java/lang/RuntimeException", "java/lang/Exception"]).filter goodWord)
def wsL_scoop_r1 : List Cond := [Cond.classLink RL 13 "java/lang/IndexOutOfBoundsException", Cond.classLink RL 24 "java/lang/IllegalStateException", Cond.methodLink RL 36 yX3_scoop, Cond.instanceMethod yX3_scoop, Cond.selects RX3 yX3_scoop yX3_scoop, Cond.initialized RX3, Cond.code yX3_scoop cX3_scoop 5 (some .int), Cond.classLink RX3 55 "java/lang/IllegalStateException", Cond.initialized "java/lang/IllegalStateException", Cond.methodLink RX3 65 yX3_existingChurn, Cond.instanceMethod yX3_existingChurn, Cond.selects RX3 yX3_existingChurn yX3_existingChurn, Cond.code yX3_existingChurn cX3_existingChurn 2 (some (.object "ColdCreamery$Churn")), Cond.classLink RX3 19 "java/lang/IndexOutOfBoundsException", Cond.initialized "java/lang/IndexOutOfBoundsException", Cond.fieldLink RX3 10 "ColdCreamery" "cellar" "LColdCreamery$Cellar;", Cond.methodLink RX3 99 yX3_existingTub, Cond.instanceMethod yX3_existingTub, Cond.selects RX3 yX3_existingTub yX3_existingTub, Cond.code yX3_existingTub cX3_existingTub 2 (some (.object "ColdCreamery$Tub")), Cond.methodLink RX3 105 yX2_take, Cond.instanceMethod yX2_take, Cond.selects RX2 yX2_take yX2_take, Cond.initialized RX2]
def wsL_scoop_r2 : List Cond := [Cond.code yX2_take cX2_take 3 none, Cond.fieldLink RX2 9 "ColdCreamery$Tub" "scoops" "I", Cond.methodLink RX2 21 Lib.Math.min.name, Cond.static Lib.Math.min.name, Cond.initialized "java/lang/Math", Cond.code Lib.Math.min.name Lib.Math.min.code 2 (some .int), Cond.fieldLink RX2 15 "ColdCreamery$Tub" "soft" "I", Cond.methodLink RX2 27 Lib.Math.max.name, Cond.static Lib.Math.max.name, Cond.code Lib.Math.max.name Lib.Math.max.code 2 (some .int)]
def wsL_scoop : List Cond := .codeWith yL_scoop cL_scoop 5 (some .int) [(0, 10, 13, 13), (0, 10, 17, 24)] :: ((wsL_scoop_r1 ++ wsL_scoop_r2) ++ wsX10 ++ wsX20 ++ wsX30 ++ wsX00 ++ (vx_atS RX3 59 "java/lang/IllegalStateException" ["java/lang/RuntimeException", "java/lang/Exception"]).filter goodWord ++ (vx_atS RX3 23 "java/lang/IndexOutOfBoundsException" ["java/lang/RuntimeException", "java/lang/Exception"]).filter goodWord)
def wsL_told : List Cond := .codeWith yL_told cL_told 5 (some .int) [(0, 10, 13, 13)] :: ([.classLink RL 13 "java/lang/IndexOutOfBoundsException", .methodLink RL 39 yX3_told, .instanceMethod yX3_told, .selects RX3 yX3_told yX3_told, .initialized RX3, .code yX3_told cX3_told 4 (some .int), .classLink RX3 19 "java/lang/IndexOutOfBoundsException", .initialized "java/lang/IndexOutOfBoundsException", .methodLink RX3 65 yX3_existingChurn, .instanceMethod yX3_existingChurn, .selects RX3 yX3_existingChurn yX3_existingChurn, .code yX3_existingChurn cX3_existingChurn 2 (some (.object "ColdCreamery$Churn")), .fieldLink RX3 10 "ColdCreamery" "cellar" "LColdCreamery$Cellar;", .methodLink RX3 116 yX1_number, .instanceMethod yX1_number, .selects RX1 yX1_number yX1_number, .initialized RX1, .code yX1_number cX1_number 2 (some .int), .fieldLink RX1 7 "ColdCreamery$Churn" "cold" "I", .fieldLink RX1 13 "ColdCreamery$Churn" "cream" "I", .fieldLink RX1 16 "ColdCreamery$Churn" "firm" "I"] ++ wsX30 ++ wsX00 ++ wsX10 ++ (vx_atS RX3 23 "java/lang/IndexOutOfBoundsException" ["java/lang/RuntimeException", "java/lang/Exception"]).filter goodWord)
def wsL_about : List Cond := .codeWith yL_about cL_about 5 (some .int) [(0, 10, 13, 13)] :: ([.classLink RL 13 "java/lang/IndexOutOfBoundsException", .methodLink RL 42 yX3_about, .instanceMethod yX3_about, .selects RX3 yX3_about yX3_about, .initialized RX3, .code yX3_about cX3_about 4 (some .int), .classLink RX3 19 "java/lang/IndexOutOfBoundsException", .initialized "java/lang/IndexOutOfBoundsException", .methodLink RX3 99 yX3_existingTub, .instanceMethod yX3_existingTub, .selects RX3 yX3_existingTub yX3_existingTub, .code yX3_existingTub cX3_existingTub 2 (some (.object "ColdCreamery$Tub")), .fieldLink RX3 10 "ColdCreamery" "cellar" "LColdCreamery$Cellar;", .methodLink RX3 120 yX2_number, .instanceMethod yX2_number, .selects RX2 yX2_number yX2_number, .initialized RX2, .code yX2_number cX2_number 2 (some .int), .fieldLink RX2 9 "ColdCreamery$Tub" "scoops" "I", .fieldLink RX2 15 "ColdCreamery$Tub" "soft" "I", .fieldLink RX2 18 "ColdCreamery$Tub" "sold" "I"] ++ wsX30 ++ wsX00 ++ wsX20 ++ (vx_atS RX3 23 "java/lang/IndexOutOfBoundsException" ["java/lang/RuntimeException", "java/lang/Exception"]).filter goodWord)
def wsL_count_r1 : List Cond := [Cond.classLink RL 13 "java/lang/IndexOutOfBoundsException", Cond.methodLink RL 45 yX3_count, Cond.instanceMethod yX3_count, Cond.selects RX3 yX3_count yX3_count, Cond.initialized RX3, Cond.code yX3_count cX3_count 2 (some .int), Cond.classLink RX3 19 "java/lang/IndexOutOfBoundsException", Cond.initialized "java/lang/IndexOutOfBoundsException", Cond.fieldLink RX3 10 "ColdCreamery" "cellar" "LColdCreamery$Cellar;", Cond.methodLink RX3 123 yX0_number, Cond.instanceMethod yX0_number, Cond.selects RX0 yX0_number yX0_number, Cond.initialized RX0, Cond.code yX0_number cX0_number 2 (some .int), Cond.fieldLink RX0 41 "ColdCreamery$Cellar" "hour" "I", Cond.fieldLink RX0 13 "ColdCreamery$Cellar" "stock" "[I", Cond.fieldLink RX0 49 "ColdCreamery$Cellar" "coins" "I", Cond.fieldLink RX0 59 "ColdCreamery$Cellar" "sentAway" "I", Cond.methodLink RX0 45 yX0_heatAt, Cond.instanceMethod yX0_heatAt, Cond.selects RX0 yX0_heatAt yX0_heatAt, Cond.code yX0_heatAt cX0_heatAt 2 (some .int), Cond.fieldLink RX0 18 "ColdCreamery$Cellar" "heats" "[I", Cond.methodLink RX0 62 yJ9_floorMod_7cf53]
def wsL_count_r2 : List Cond := [Cond.static yJ9_floorMod_7cf53, Cond.initialized RJ9, Cond.code yJ9_floorMod_7cf53 cJ9_floorMod_7cf53 3 (some .int), Cond.methodLink RX0 52 yX0_scoopsInTubs, Cond.instanceMethod yX0_scoopsInTubs, Cond.selects RX0 yX0_scoopsInTubs yX0_scoopsInTubs, Cond.code yX0_scoopsInTubs cX0_scoopsInTubs 3 (some .int), Cond.fieldLink RX0 68 "ColdCreamery$Cellar" "tubCount" "I", Cond.fieldLink RX0 29 "ColdCreamery$Cellar" "tubs" "[LColdCreamery$Tub;", Cond.methodLink RX0 56 yX0_soldScoops, Cond.instanceMethod yX0_soldScoops, Cond.selects RX0 yX0_soldScoops yX0_soldScoops, Cond.code yX0_soldScoops cX0_soldScoops 3 (some .int)]
def wsL_count : List Cond := .codeWith yL_count cL_count 4 (some .int) [(0, 9, 12, 13)] :: ((wsL_count_r1 ++ wsL_count_r2) ++ wsX30 ++ wsX00 ++ wsX20 ++ (vx_atS RX3 23 "java/lang/IndexOutOfBoundsException" ["java/lang/RuntimeException", "java/lang/Exception"]).filter goodWord)
def wsL_pass_r1 : List Cond := [Cond.classLink RL 15 "java/lang/IllegalArgumentException", Cond.methodLink RL 49 yX3_pass, Cond.instanceMethod yX3_pass, Cond.selects RX3 yX3_pass yX3_pass, Cond.initialized RX3, Cond.code yX3_pass cX3_pass 3 (some .int), Cond.fieldLink RX3 10 "ColdCreamery" "cellar" "LColdCreamery$Cellar;", Cond.methodLink RX3 128 yX3_checkHours, Cond.static yX3_checkHours, Cond.code yX3_checkHours cX3_checkHours 1 none, Cond.classLink RX3 26 "java/lang/IllegalArgumentException", Cond.initialized "java/lang/IllegalArgumentException", Cond.methodLink RX3 134 yX0_runHours, Cond.instanceMethod yX0_runHours, Cond.selects RX0 yX0_runHours yX0_runHours, Cond.initialized RX0, Cond.code yX0_runHours cX0_runHours 3 none, Cond.methodLink RX0 80 yX0_runHour, Cond.instanceMethod yX0_runHour, Cond.selects RX0 yX0_runHour yX0_runHour, Cond.code yX0_runHour cX0_runHour 3 none, Cond.fieldLink RX0 41 "ColdCreamery$Cellar" "hour" "I", Cond.fieldLink RX0 83 "ColdCreamery$Cellar" "churnCount" "I", Cond.fieldLink RX0 23 "ColdCreamery$Cellar" "churns" "[LColdCreamery$Churn;"]
def wsL_pass_r2 : List Cond := [Cond.fieldLink RX0 68 "ColdCreamery$Cellar" "tubCount" "I", Cond.fieldLink RX0 29 "ColdCreamery$Cellar" "tubs" "[LColdCreamery$Tub;", Cond.fieldLink RX0 13 "ColdCreamery$Cellar" "stock" "[I", Cond.methodLink RX0 45 yX0_heatAt, Cond.instanceMethod yX0_heatAt, Cond.selects RX0 yX0_heatAt yX0_heatAt, Cond.code yX0_heatAt cX0_heatAt 2 (some .int), Cond.fieldLink RX0 18 "ColdCreamery$Cellar" "heats" "[I", Cond.methodLink RX0 62 yJ9_floorMod_7cf53, Cond.static yJ9_floorMod_7cf53, Cond.initialized RJ9, Cond.code yJ9_floorMod_7cf53 cJ9_floorMod_7cf53 3 (some .int), Cond.methodLink RX0 86 yX1_turn, Cond.instanceMethod yX1_turn, Cond.selects RX1 yX1_turn yX1_turn, Cond.initialized RX1, Cond.code yX1_turn cX1_turn 2 none, Cond.fieldLink RX1 13 "ColdCreamery$Churn" "cream" "I", Cond.fieldLink RX1 16 "ColdCreamery$Churn" "firm" "I", Cond.fieldLink RX1 7 "ColdCreamery$Churn" "cold" "I", Cond.static yX3_firmAfterHour, Cond.code yX3_firmAfterHour cX3_firmAfterHour 2 (some .int), Cond.methodLink RX3 38 Lib.Math.min.name, Cond.static Lib.Math.min.name]
def wsL_pass_r3 : List Cond := [Cond.initialized "java/lang/Math", Cond.code Lib.Math.min.name Lib.Math.min.code 2 (some .int), Cond.static yX3_coldAfterHour, Cond.code yX3_coldAfterHour cX3_coldAfterHour 2 (some .int), Cond.methodLink RX3 153 Lib.Math.max.name, Cond.static Lib.Math.max.name, Cond.code Lib.Math.max.name Lib.Math.max.code 2 (some .int), Cond.methodLink RX0 90 yX2_standInHeat, Cond.instanceMethod yX2_standInHeat, Cond.selects RX2 yX2_standInHeat yX2_standInHeat, Cond.initialized RX2, Cond.code yX2_standInHeat cX2_standInHeat 3 none, Cond.fieldLink RX2 9 "ColdCreamery$Tub" "scoops" "I", Cond.fieldLink RX2 15 "ColdCreamery$Tub" "soft" "I", Cond.methodLink RX2 21 Lib.Math.min.name, Cond.methodLink RX2 27 Lib.Math.max.name, Cond.methodLink RX0 94 yX0_servePeople, Cond.instanceMethod yX0_servePeople, Cond.selects RX0 yX0_servePeople yX0_servePeople, Cond.code yX0_servePeople cX0_servePeople 5 none, Cond.methodLink RX0 104 yX0_serveOne, Cond.instanceMethod yX0_serveOne, Cond.selects RX0 yX0_serveOne yX0_serveOne, Cond.code yX0_serveOne cX0_serveOne 2 none]
def wsL_pass_r4 : List Cond := [Cond.fieldLink RX0 59 "ColdCreamery$Cellar" "sentAway" "I", Cond.fieldLink RX0 49 "ColdCreamery$Cellar" "coins" "I", Cond.methodLink RX0 107 yX0_sellingTub, Cond.instanceMethod yX0_sellingTub, Cond.selects RX0 yX0_sellingTub yX0_sellingTub, Cond.code yX0_sellingTub cX0_sellingTub 4 (some .int), Cond.methodLink RX0 110 yX2_sellScoop, Cond.instanceMethod yX2_sellScoop, Cond.selects RX2 yX2_sellScoop yX2_sellScoop, Cond.code yX2_sellScoop cX2_sellScoop 1 (some .int), Cond.fieldLink RX2 18 "ColdCreamery$Tub" "sold" "I", Cond.static yX3_iceAfterHour, Cond.code yX3_iceAfterHour cX3_iceAfterHour 3 (some .int), Cond.methodLink RX0 101 yX2_forgetSoftnessIfEmpty, Cond.instanceMethod yX2_forgetSoftnessIfEmpty, Cond.selects RX2 yX2_forgetSoftnessIfEmpty yX2_forgetSoftnessIfEmpty, Cond.code yX2_forgetSoftnessIfEmpty cX2_forgetSoftnessIfEmpty 1 none]
def wsL_pass : List Cond := .codeWith yL_pass cL_pass 4 (some .int) [(0, 9, 12, 15)] :: ((wsL_pass_r1 ++ (wsL_pass_r2 ++ (wsL_pass_r3 ++ wsL_pass_r4))) ++ wsX30 ++ wsX00 ++ wsX10 ++ wsX20 ++ (vx_atS RX3 30 "java/lang/IllegalArgumentException" ["java/lang/RuntimeException", "java/lang/Exception"]).filter goodWord)
def wsL_done_r1 : List Cond := [Cond.classLink RL 13 "java/lang/IndexOutOfBoundsException", Cond.methodLink RL 52 yX3_done, Cond.instanceMethod yX3_done, Cond.selects RX3 yX3_done yX3_done, Cond.initialized RX3, Cond.code yX3_done cX3_done 2 (some .int), Cond.fieldLink RX3 10 "ColdCreamery" "cellar" "LColdCreamery$Cellar;", Cond.methodLink RX3 65 yX3_existingChurn, Cond.instanceMethod yX3_existingChurn, Cond.selects RX3 yX3_existingChurn yX3_existingChurn, Cond.code yX3_existingChurn cX3_existingChurn 2 (some (.object "ColdCreamery$Churn")), Cond.classLink RX3 19 "java/lang/IndexOutOfBoundsException", Cond.initialized "java/lang/IndexOutOfBoundsException", Cond.methodLink RX3 137 yX0_hoursUntilFirm, Cond.instanceMethod yX0_hoursUntilFirm, Cond.selects RX0 yX0_hoursUntilFirm yX0_hoursUntilFirm, Cond.initialized RX0, Cond.code yX0_hoursUntilFirm cX0_hoursUntilFirm 5 (some .int), Cond.fieldLink RX0 41 "ColdCreamery$Cellar" "hour" "I", Cond.static yX3_firmAfterHour, Cond.code yX3_firmAfterHour cX3_firmAfterHour 2 (some .int), Cond.methodLink RX3 38 Lib.Math.min.name, Cond.static Lib.Math.min.name, Cond.initialized "java/lang/Math"]
def wsL_done_r2 : List Cond := [Cond.code Lib.Math.min.name Lib.Math.min.code 2 (some .int), Cond.methodLink RX0 45 yX0_heatAt, Cond.instanceMethod yX0_heatAt, Cond.selects RX0 yX0_heatAt yX0_heatAt, Cond.code yX0_heatAt cX0_heatAt 2 (some .int), Cond.fieldLink RX0 18 "ColdCreamery$Cellar" "heats" "[I", Cond.methodLink RX0 62 yJ9_floorMod_7cf53, Cond.static yJ9_floorMod_7cf53, Cond.initialized RJ9, Cond.code yJ9_floorMod_7cf53 cJ9_floorMod_7cf53 3 (some .int), Cond.static yX3_coldAfterHour, Cond.code yX3_coldAfterHour cX3_coldAfterHour 2 (some .int), Cond.methodLink RX3 153 Lib.Math.max.name, Cond.static Lib.Math.max.name, Cond.code Lib.Math.max.name Lib.Math.max.code 2 (some .int)]
def wsL_done : List Cond := .codeWith yL_done cL_done 4 (some .int) [(0, 9, 12, 13)] :: ((wsL_done_r1 ++ wsL_done_r2) ++ wsX30 ++ wsX00 ++ wsX10 ++ (vx_atS RX3 23 "java/lang/IndexOutOfBoundsException" ["java/lang/RuntimeException", "java/lang/Exception"]).filter goodWord)
def wsL_foresee_r1 : List Cond := [Cond.classLink RL 15 "java/lang/IllegalArgumentException", Cond.classLink RL 13 "java/lang/IndexOutOfBoundsException", Cond.methodLink RL 55 yX3_foresee, Cond.instanceMethod yX3_foresee, Cond.selects RX3 yX3_foresee yX3_foresee, Cond.initialized RX3, Cond.code yX3_foresee cX3_foresee 3 (some .int), Cond.classLink RX3 19 "java/lang/IndexOutOfBoundsException", Cond.initialized "java/lang/IndexOutOfBoundsException", Cond.fieldLink RX3 16 "ColdCreamery" "foreseen" "LColdCreamery$Cellar;", Cond.fieldLink RX3 10 "ColdCreamery" "cellar" "LColdCreamery$Cellar;", Cond.methodLink RX3 128 yX3_checkHours, Cond.static yX3_checkHours, Cond.code yX3_checkHours cX3_checkHours 1 none, Cond.classLink RX3 26 "java/lang/IllegalArgumentException", Cond.initialized "java/lang/IllegalArgumentException", Cond.methodLink RX3 143 yX0_copyFrom, Cond.instanceMethod yX0_copyFrom, Cond.selects RX0 yX0_copyFrom yX0_copyFrom, Cond.initialized RX0, Cond.code yX0_copyFrom cX0_copyFrom 3 none, Cond.fieldLink RX0 13 "ColdCreamery$Cellar" "stock" "[I", Cond.methodLink RX0 128 arraycopyName, Cond.native arraycopyName]
def wsL_foresee_r2 : List Cond := [Cond.static arraycopyName, Cond.initialized "java/lang/System", Cond.fieldLink RX0 18 "ColdCreamery$Cellar" "heats" "[I", Cond.fieldLink RX0 23 "ColdCreamery$Cellar" "churns" "[LColdCreamery$Churn;", Cond.fieldLink RX0 29 "ColdCreamery$Cellar" "tubs" "[LColdCreamery$Tub;", Cond.fieldLink RX0 83 "ColdCreamery$Cellar" "churnCount" "I", Cond.fieldLink RX0 68 "ColdCreamery$Cellar" "tubCount" "I", Cond.fieldLink RX0 41 "ColdCreamery$Cellar" "hour" "I", Cond.fieldLink RX0 49 "ColdCreamery$Cellar" "coins" "I", Cond.fieldLink RX0 59 "ColdCreamery$Cellar" "sentAway" "I", Cond.methodLink RX0 134 yX1_copyFrom, Cond.instanceMethod yX1_copyFrom, Cond.selects RX1 yX1_copyFrom yX1_copyFrom, Cond.initialized RX1, Cond.code yX1_copyFrom cX1_copyFrom 2 none, Cond.fieldLink RX1 7 "ColdCreamery$Churn" "cold" "I", Cond.fieldLink RX1 13 "ColdCreamery$Churn" "cream" "I", Cond.fieldLink RX1 16 "ColdCreamery$Churn" "firm" "I", Cond.methodLink RX0 138 yX2_copyFrom, Cond.instanceMethod yX2_copyFrom, Cond.selects RX2 yX2_copyFrom yX2_copyFrom, Cond.initialized RX2, Cond.code yX2_copyFrom cX2_copyFrom 2 none, Cond.fieldLink RX2 9 "ColdCreamery$Tub" "scoops" "I"]
def wsL_foresee_r3 : List Cond := [Cond.fieldLink RX2 15 "ColdCreamery$Tub" "soft" "I", Cond.fieldLink RX2 18 "ColdCreamery$Tub" "sold" "I", Cond.methodLink RX3 134 yX0_runHours, Cond.instanceMethod yX0_runHours, Cond.selects RX0 yX0_runHours yX0_runHours, Cond.code yX0_runHours cX0_runHours 3 none, Cond.methodLink RX0 80 yX0_runHour, Cond.instanceMethod yX0_runHour, Cond.selects RX0 yX0_runHour yX0_runHour, Cond.code yX0_runHour cX0_runHour 3 none, Cond.methodLink RX0 45 yX0_heatAt, Cond.instanceMethod yX0_heatAt, Cond.selects RX0 yX0_heatAt yX0_heatAt, Cond.code yX0_heatAt cX0_heatAt 2 (some .int), Cond.methodLink RX0 62 yJ9_floorMod_7cf53, Cond.static yJ9_floorMod_7cf53, Cond.initialized RJ9, Cond.code yJ9_floorMod_7cf53 cJ9_floorMod_7cf53 3 (some .int), Cond.methodLink RX0 86 yX1_turn, Cond.instanceMethod yX1_turn, Cond.selects RX1 yX1_turn yX1_turn, Cond.code yX1_turn cX1_turn 2 none, Cond.static yX3_firmAfterHour, Cond.code yX3_firmAfterHour cX3_firmAfterHour 2 (some .int)]
def wsL_foresee_r4 : List Cond := [Cond.methodLink RX3 38 Lib.Math.min.name, Cond.static Lib.Math.min.name, Cond.initialized "java/lang/Math", Cond.code Lib.Math.min.name Lib.Math.min.code 2 (some .int), Cond.static yX3_coldAfterHour, Cond.code yX3_coldAfterHour cX3_coldAfterHour 2 (some .int), Cond.methodLink RX3 153 Lib.Math.max.name, Cond.static Lib.Math.max.name, Cond.code Lib.Math.max.name Lib.Math.max.code 2 (some .int), Cond.methodLink RX0 90 yX2_standInHeat, Cond.instanceMethod yX2_standInHeat, Cond.selects RX2 yX2_standInHeat yX2_standInHeat, Cond.code yX2_standInHeat cX2_standInHeat 3 none, Cond.methodLink RX2 21 Lib.Math.min.name, Cond.methodLink RX2 27 Lib.Math.max.name, Cond.methodLink RX0 94 yX0_servePeople, Cond.instanceMethod yX0_servePeople, Cond.selects RX0 yX0_servePeople yX0_servePeople, Cond.code yX0_servePeople cX0_servePeople 5 none, Cond.methodLink RX0 104 yX0_serveOne, Cond.instanceMethod yX0_serveOne, Cond.selects RX0 yX0_serveOne yX0_serveOne, Cond.code yX0_serveOne cX0_serveOne 2 none, Cond.methodLink RX0 107 yX0_sellingTub]
def wsL_foresee_r5 : List Cond := [Cond.instanceMethod yX0_sellingTub, Cond.selects RX0 yX0_sellingTub yX0_sellingTub, Cond.code yX0_sellingTub cX0_sellingTub 4 (some .int), Cond.methodLink RX0 110 yX2_sellScoop, Cond.instanceMethod yX2_sellScoop, Cond.selects RX2 yX2_sellScoop yX2_sellScoop, Cond.code yX2_sellScoop cX2_sellScoop 1 (some .int), Cond.static yX3_iceAfterHour, Cond.code yX3_iceAfterHour cX3_iceAfterHour 3 (some .int), Cond.methodLink RX0 101 yX2_forgetSoftnessIfEmpty, Cond.instanceMethod yX2_forgetSoftnessIfEmpty, Cond.selects RX2 yX2_forgetSoftnessIfEmpty yX2_forgetSoftnessIfEmpty, Cond.code yX2_forgetSoftnessIfEmpty cX2_forgetSoftnessIfEmpty 1 none, Cond.methodLink RX3 123 yX0_number, Cond.instanceMethod yX0_number, Cond.selects RX0 yX0_number yX0_number, Cond.code yX0_number cX0_number 2 (some .int), Cond.methodLink RX0 52 yX0_scoopsInTubs, Cond.instanceMethod yX0_scoopsInTubs, Cond.selects RX0 yX0_scoopsInTubs yX0_scoopsInTubs, Cond.code yX0_scoopsInTubs cX0_scoopsInTubs 3 (some .int), Cond.methodLink RX0 56 yX0_soldScoops, Cond.instanceMethod yX0_soldScoops, Cond.selects RX0 yX0_soldScoops yX0_soldScoops]
def wsL_foresee_r6 : List Cond := [Cond.code yX0_soldScoops cX0_soldScoops 3 (some .int)]
def wsL_foresee : List Cond := .codeWith yL_foresee cL_foresee 5 (some .int) [(0, 10, 13, 15), (0, 10, 17, 13)] :: ((wsL_foresee_r1 ++ (wsL_foresee_r2 ++ (wsL_foresee_r3 ++ (wsL_foresee_r4 ++ (wsL_foresee_r5 ++ wsL_foresee_r6))))) ++ wsX30 ++ wsX00 ++ wsX10 ++ wsX20 ++ (vx_atS RX3 23 "java/lang/IndexOutOfBoundsException" ["java/lang/RuntimeException", "java/lang/Exception"]).filter goodWord ++ (vx_atS RX3 30 "java/lang/IllegalArgumentException" ["java/lang/RuntimeException", "java/lang/Exception"]).filter goodWord)
def wsL_salt_r1 : List Cond := [Cond.classLink RL 13 "java/lang/IndexOutOfBoundsException", Cond.classLink RL 15 "java/lang/IllegalArgumentException", Cond.methodLink RL 58 yX3_salt, Cond.instanceMethod yX3_salt, Cond.selects RX3 yX3_salt yX3_salt, Cond.initialized RX3, Cond.code yX3_salt cX3_salt 6 (some .int), Cond.methodLink RX3 153 Lib.Math.max.name, Cond.static Lib.Math.max.name, Cond.initialized "java/lang/Math", Cond.code Lib.Math.max.name Lib.Math.max.code 2 (some .int), Cond.methodLink RX3 38 Lib.Math.min.name, Cond.static Lib.Math.min.name, Cond.code Lib.Math.min.name Lib.Math.min.code 2 (some .int), Cond.methodLink RX3 65 yX3_existingChurn, Cond.instanceMethod yX3_existingChurn, Cond.selects RX3 yX3_existingChurn yX3_existingChurn, Cond.code yX3_existingChurn cX3_existingChurn 2 (some (.object "ColdCreamery$Churn")), Cond.classLink RX3 19 "java/lang/IndexOutOfBoundsException", Cond.initialized "java/lang/IndexOutOfBoundsException", Cond.fieldLink RX3 10 "ColdCreamery" "cellar" "LColdCreamery$Cellar;", Cond.methodLink RX3 69 yX3_checkPacked, Cond.static yX3_checkPacked, Cond.code yX3_checkPacked cX3_checkPacked 1 none]
def wsL_salt_r2 : List Cond := [Cond.classLink RX3 26 "java/lang/IllegalArgumentException", Cond.initialized "java/lang/IllegalArgumentException", Cond.methodLink RX3 150 yX3_coldOfIce, Cond.static yX3_coldOfIce, Cond.code yX3_coldOfIce cX3_coldOfIce 1 (some .int)]
def wsL_salt : List Cond := .codeWith yL_salt cL_salt 5 (some .int) [(0, 10, 13, 13), (0, 10, 17, 15)] :: ((wsL_salt_r1 ++ wsL_salt_r2) ++ wsX10 ++ wsX30 ++ wsX00 ++ (vx_atS RX3 23 "java/lang/IndexOutOfBoundsException" ["java/lang/RuntimeException", "java/lang/Exception"]).filter goodWord ++ (vx_atS RX3 30 "java/lang/IllegalArgumentException" ["java/lang/RuntimeException", "java/lang/Exception"]).filter goodWord)
def wsL_law0_r1 : List Cond := [Cond.classLink RL 8 RX3, Cond.instantiable RX3 2, Cond.initialized RX3, Cond.classLink RL 62 RX4, Cond.instantiable RX4 6, Cond.initialized RX4, Cond.arrayClass .long, Cond.methodLink RL 61 yX3_init, Cond.instanceMethod yX3_init, Cond.code yX3_init cX3_init 1 none, Cond.methodLink RX3 1 objectInit, Cond.instanceMethod objectInit, Cond.code objectInit ⟨#[0xb1]⟩ 1 none, Cond.classLink RX3 7 RX0, Cond.instantiable RX0 9, Cond.initialized RX0, Cond.fieldLink RX3 10 "ColdCreamery" "cellar" "LColdCreamery$Cellar;", Cond.fieldLink RX3 16 "ColdCreamery" "foreseen" "LColdCreamery$Cellar;", Cond.methodLink RX3 9 yX0_init, Cond.instanceMethod yX0_init, Cond.code yX0_init cX0_init 2 none, Cond.methodLink RX0 3 objectInit, Cond.arrayClass .int, Cond.fieldLink RX0 13 "ColdCreamery$Cellar" "stock" "[I"]
def wsL_law0_r2 : List Cond := [Cond.fieldLink RX0 18 "ColdCreamery$Cellar" "heats" "[I", Cond.classLink RX0 21 RX1, Cond.fieldLink RX0 23 "ColdCreamery$Cellar" "churns" "[LColdCreamery$Churn;", Cond.classLink RX0 27 RX2, Cond.fieldLink RX0 29 "ColdCreamery$Cellar" "tubs" "[LColdCreamery$Tub;", Cond.instantiable RX1 3, Cond.initialized RX1, Cond.instantiable RX2 3, Cond.initialized RX2, Cond.methodLink RX0 33 yJ7_fill_53178, Cond.static yJ7_fill_53178, Cond.initialized RJ7, Cond.code yJ7_fill_53178 cJ7_fill_53178 4 none, Cond.instanceMethod yX1_init, Cond.code yX1_init cX1_init 1 none, Cond.methodLink RX1 1 objectInit, Cond.instanceMethod yX2_init, Cond.code yX2_init cX2_init 1 none, Cond.methodLink RX2 3 objectInit, Cond.methodLink RL 64 yX4_init, Cond.instanceMethod yX4_init, Cond.code yX4_init cX4_init 1 none, Cond.methodLink RX4 3 objectInit, Cond.fieldLink RX4 9 "ColdCreameryModel" "s" "[I"]
def wsL_law0_r3 : List Cond := [Cond.fieldLink RX4 13 "ColdCreameryModel" "kept" "[I", Cond.fieldLink RX4 16 "ColdCreameryModel" "heat" "[I", Cond.methodLink RL 65 yL_bring, Cond.static yL_bring, Cond.initialized RL, Cond.codeWith yL_bring cL_bring 5 (some .int) [(0, 10, 13, 13), (0, 10, 17, 15)], Cond.classLink RL 13 "java/lang/IndexOutOfBoundsException", Cond.classLink RL 15 "java/lang/IllegalArgumentException", Cond.methodLink RL 7 yX3_bring, Cond.instanceMethod yX3_bring, Cond.selects RX3 yX3_bring yX3_bring, Cond.code yX3_bring cX3_bring 3 (some .int), Cond.classLink RX3 19 "java/lang/IndexOutOfBoundsException", Cond.initialized "java/lang/IndexOutOfBoundsException", Cond.classLink RX3 26 "java/lang/IllegalArgumentException", Cond.initialized "java/lang/IllegalArgumentException", Cond.fieldLink RX3 35 "ColdCreamery" "STOCK_LIMITS" "[I", Cond.methodLink RX3 38 Lib.Math.min.name, Cond.static Lib.Math.min.name, Cond.initialized "java/lang/Math", Cond.code Lib.Math.min.name Lib.Math.min.code 2 (some .int), Cond.methodLink RL 70 yX4_bring, Cond.instanceMethod yX4_bring, Cond.selects RX4 yX4_bring yX4_bring]
def wsL_law0_r4 : List Cond := [Cond.code yX4_bring cX4_bring 3 (some .int), Cond.fieldLink RX4 19 "ColdCreameryModel" "thrown" "I", Cond.fieldLink RX4 37 "ColdCreameryModel" "MOST" "[I", Cond.methodLink RX4 40 Lib.Math.min.name, Cond.methodLink RX4 26 yX4_isIn, Cond.static yX4_isIn, Cond.code yX4_isIn cX4_isIn 3 (some .boolean), Cond.methodLink RX4 33 yX4_no, Cond.instanceMethod yX4_no, Cond.selects RX4 yX4_no yX4_no, Cond.code yX4_no cX4_no 2 (some .int), Cond.methodLink RL 71 yX4_thrown, Cond.instanceMethod yX4_thrown, Cond.selects RX4 yX4_thrown yX4_thrown, Cond.code yX4_thrown cX4_thrown 1 (some .int), Cond.methodLink RL 74 yL_setHeat, Cond.static yL_setHeat, Cond.codeWith yL_setHeat cL_setHeat 5 (some .int) [(0, 10, 13, 13), (0, 10, 17, 15)], Cond.methodLink RL 17 yX3_setHeat, Cond.instanceMethod yX3_setHeat, Cond.selects RX3 yX3_setHeat yX3_setHeat, Cond.code yX3_setHeat cX3_setHeat 4 (some .int), Cond.methodLink RL 76 yX4_setHeat, Cond.instanceMethod yX4_setHeat]
def wsL_law0_r5 : List Cond := [Cond.selects RX4 yX4_setHeat yX4_setHeat, Cond.code yX4_setHeat cX4_setHeat 4 (some .int), Cond.methodLink RL 77 yL_churn, Cond.static yL_churn, Cond.codeWith yL_churn cL_churn 3 (some .int) [(0, 8, 11, 24)], Cond.classLink RL 24 "java/lang/IllegalStateException", Cond.methodLink RL 20 yX3_churn, Cond.instanceMethod yX3_churn, Cond.selects RX3 yX3_churn yX3_churn, Cond.code yX3_churn cX3_churn 2 (some .int), Cond.classLink RX3 55 "java/lang/IllegalStateException", Cond.initialized "java/lang/IllegalStateException", Cond.methodLink RL 80 yX4_churn, Cond.instanceMethod yX4_churn, Cond.selects RX4 yX4_churn yX4_churn, Cond.code yX4_churn cX4_churn 1 (some .int), Cond.fieldLink RX4 23 "ColdCreameryModel" "churns" "I", Cond.methodLink RL 81 yL_tub, Cond.static yL_tub, Cond.codeWith yL_tub cL_tub 3 (some .int) [(0, 8, 11, 24)], Cond.methodLink RL 26 yX3_tub, Cond.instanceMethod yX3_tub, Cond.selects RX3 yX3_tub yX3_tub, Cond.code yX3_tub cX3_tub 2 (some .int)]
def wsL_law0_r6 : List Cond := [Cond.methodLink RL 83 yX4_tub, Cond.instanceMethod yX4_tub, Cond.selects RX4 yX4_tub yX4_tub, Cond.code yX4_tub cX4_tub 1 (some .int), Cond.fieldLink RX4 30 "ColdCreameryModel" "tubs" "I", Cond.methodLink RL 84 yL_pack, Cond.static yL_pack, Cond.codeWith yL_pack cL_pack 6 (some .int) [(0, 12, 15, 13), (0, 12, 19, 15), (0, 12, 23, 24)], Cond.methodLink RL 29 yX3_pack, Cond.instanceMethod yX3_pack, Cond.selects RX3 yX3_pack yX3_pack, Cond.code yX3_pack cX3_pack 5 (some .int), Cond.methodLink RX3 65 yX3_existingChurn, Cond.instanceMethod yX3_existingChurn, Cond.selects RX3 yX3_existingChurn yX3_existingChurn, Cond.code yX3_existingChurn cX3_existingChurn 2 (some (.object "ColdCreamery$Churn")), Cond.methodLink RX3 69 yX3_checkPacked, Cond.static yX3_checkPacked, Cond.code yX3_checkPacked cX3_checkPacked 1 none, Cond.methodLink RX3 80 yX3_coldWithBrine, Cond.static yX3_coldWithBrine, Cond.code yX3_coldWithBrine cX3_coldWithBrine 5 (some .int), Cond.methodLink RX3 150 yX3_coldOfIce, Cond.static yX3_coldOfIce]
def wsL_law0_r7 : List Cond := [Cond.code yX3_coldOfIce cX3_coldOfIce 1 (some .int), Cond.methodLink RL 87 yX4_pack, Cond.instanceMethod yX4_pack, Cond.selects RX4 yX4_pack yX4_pack, Cond.code yX4_pack cX4_pack 4 (some .int), Cond.methodLink RX4 49 yX4_isChurn, Cond.instanceMethod yX4_isChurn, Cond.selects RX4 yX4_isChurn yX4_isChurn, Cond.code yX4_isChurn cX4_isChurn 2 (some .boolean), Cond.methodLink RX4 53 yX4_packed, Cond.instanceMethod yX4_packed, Cond.selects RX4 yX4_packed yX4_packed, Cond.code yX4_packed cX4_packed 4 (some .int), Cond.methodLink RX4 46 yX4_ch, Cond.instanceMethod yX4_ch, Cond.selects RX4 yX4_ch yX4_ch, Cond.code yX4_ch cX4_ch 3 (some .int), Cond.methodLink RX4 57 yX4_setChurn, Cond.instanceMethod yX4_setChurn, Cond.selects RX4 yX4_setChurn yX4_setChurn, Cond.code yX4_setChurn cX4_setChurn 4 none, Cond.methodLink RL 88 yL_pour, Cond.static yL_pour, Cond.codeWith yL_pour cL_pour 5 (some .int) [(0, 10, 13, 13), (0, 10, 17, 15), (0, 10, 21, 24)]]
def wsL_law0_r8 : List Cond := [Cond.methodLink RL 33 yX3_pour, Cond.instanceMethod yX3_pour, Cond.selects RX3 yX3_pour yX3_pour, Cond.code yX3_pour cX3_pour 4 (some .int), Cond.methodLink RX3 93 yX1_add, Cond.instanceMethod yX1_add, Cond.selects RX1 yX1_add yX1_add, Cond.code yX1_add cX1_add 3 none, Cond.fieldLink RX1 13 "ColdCreamery$Churn" "cream" "I", Cond.fieldLink RX1 16 "ColdCreamery$Churn" "firm" "I", Cond.methodLink RL 90 yX4_pour, Cond.instanceMethod yX4_pour, Cond.selects RX4 yX4_pour yX4_pour, Cond.code yX4_pour cX4_pour 4 (some .int), Cond.methodLink RL 91 yL_scoop, Cond.static yL_scoop, Cond.codeWith yL_scoop cL_scoop 5 (some .int) [(0, 10, 13, 13), (0, 10, 17, 24)], Cond.methodLink RL 36 yX3_scoop, Cond.instanceMethod yX3_scoop, Cond.selects RX3 yX3_scoop yX3_scoop, Cond.code yX3_scoop cX3_scoop 5 (some .int), Cond.methodLink RX3 99 yX3_existingTub, Cond.instanceMethod yX3_existingTub, Cond.selects RX3 yX3_existingTub yX3_existingTub]
def wsL_law0_r9 : List Cond := [Cond.code yX3_existingTub cX3_existingTub 2 (some (.object "ColdCreamery$Tub")), Cond.methodLink RX3 105 yX2_take, Cond.instanceMethod yX2_take, Cond.selects RX2 yX2_take yX2_take, Cond.code yX2_take cX2_take 3 none, Cond.fieldLink RX2 9 "ColdCreamery$Tub" "scoops" "I", Cond.methodLink RX2 21 Lib.Math.min.name, Cond.fieldLink RX2 15 "ColdCreamery$Tub" "soft" "I", Cond.methodLink RX2 27 Lib.Math.max.name, Cond.static Lib.Math.max.name, Cond.code Lib.Math.max.name Lib.Math.max.code 2 (some .int), Cond.methodLink RL 93 yX4_scoop, Cond.instanceMethod yX4_scoop, Cond.selects RX4 yX4_scoop yX4_scoop, Cond.code yX4_scoop cX4_scoop 3 (some .int), Cond.methodLink RX4 70 Lib.Math.max.name, Cond.methodLink RX4 61 yX4_isTub, Cond.instanceMethod yX4_isTub, Cond.selects RX4 yX4_isTub yX4_isTub, Cond.code yX4_isTub cX4_isTub 2 (some .boolean), Cond.methodLink RX4 64 yX4_tu, Cond.instanceMethod yX4_tu, Cond.selects RX4 yX4_tu yX4_tu, Cond.code yX4_tu cX4_tu 3 (some .int)]
def wsL_law0_r10 : List Cond := [Cond.methodLink RX4 67 yX4_setTub, Cond.instanceMethod yX4_setTub, Cond.selects RX4 yX4_setTub yX4_setTub, Cond.code yX4_setTub cX4_setTub 4 none, Cond.methodLink RL 94 yL_told, Cond.static yL_told, Cond.codeWith yL_told cL_told 5 (some .int) [(0, 10, 13, 13)], Cond.methodLink RL 39 yX3_told, Cond.instanceMethod yX3_told, Cond.selects RX3 yX3_told yX3_told, Cond.code yX3_told cX3_told 4 (some .int), Cond.methodLink RX3 116 yX1_number, Cond.instanceMethod yX1_number, Cond.selects RX1 yX1_number yX1_number, Cond.code yX1_number cX1_number 2 (some .int), Cond.fieldLink RX1 7 "ColdCreamery$Churn" "cold" "I", Cond.methodLink RL 96 yX4_told, Cond.instanceMethod yX4_told, Cond.selects RX4 yX4_told yX4_told, Cond.code yX4_told cX4_told 3 (some .int), Cond.methodLink RL 97 yL_about, Cond.static yL_about, Cond.codeWith yL_about cL_about 5 (some .int) [(0, 10, 13, 13)], Cond.methodLink RL 42 yX3_about]
def wsL_law0_r11 : List Cond := [Cond.instanceMethod yX3_about, Cond.selects RX3 yX3_about yX3_about, Cond.code yX3_about cX3_about 4 (some .int), Cond.methodLink RX3 120 yX2_number, Cond.instanceMethod yX2_number, Cond.selects RX2 yX2_number yX2_number, Cond.code yX2_number cX2_number 2 (some .int), Cond.fieldLink RX2 18 "ColdCreamery$Tub" "sold" "I", Cond.methodLink RL 99 yX4_about, Cond.instanceMethod yX4_about, Cond.selects RX4 yX4_about yX4_about, Cond.code yX4_about cX4_about 3 (some .int), Cond.methodLink RL 100 yL_count, Cond.static yL_count, Cond.codeWith yL_count cL_count 4 (some .int) [(0, 9, 12, 13)], Cond.methodLink RL 45 yX3_count, Cond.instanceMethod yX3_count, Cond.selects RX3 yX3_count yX3_count, Cond.code yX3_count cX3_count 2 (some .int), Cond.methodLink RX3 123 yX0_number, Cond.instanceMethod yX0_number, Cond.selects RX0 yX0_number yX0_number, Cond.code yX0_number cX0_number 2 (some .int), Cond.fieldLink RX0 41 "ColdCreamery$Cellar" "hour" "I"]
def wsL_law0_r12 : List Cond := [Cond.fieldLink RX0 49 "ColdCreamery$Cellar" "coins" "I", Cond.fieldLink RX0 59 "ColdCreamery$Cellar" "sentAway" "I", Cond.methodLink RX0 45 yX0_heatAt, Cond.instanceMethod yX0_heatAt, Cond.selects RX0 yX0_heatAt yX0_heatAt, Cond.code yX0_heatAt cX0_heatAt 2 (some .int), Cond.methodLink RX0 62 yJ9_floorMod_7cf53, Cond.static yJ9_floorMod_7cf53, Cond.initialized RJ9, Cond.code yJ9_floorMod_7cf53 cJ9_floorMod_7cf53 3 (some .int), Cond.methodLink RX0 52 yX0_scoopsInTubs, Cond.instanceMethod yX0_scoopsInTubs, Cond.selects RX0 yX0_scoopsInTubs yX0_scoopsInTubs, Cond.code yX0_scoopsInTubs cX0_scoopsInTubs 3 (some .int), Cond.fieldLink RX0 68 "ColdCreamery$Cellar" "tubCount" "I", Cond.methodLink RX0 56 yX0_soldScoops, Cond.instanceMethod yX0_soldScoops, Cond.selects RX0 yX0_soldScoops yX0_soldScoops, Cond.code yX0_soldScoops cX0_soldScoops 3 (some .int), Cond.methodLink RL 103 yX4_count, Cond.instanceMethod yX4_count, Cond.selects RX4 yX4_count yX4_count, Cond.code yX4_count cX4_count 2 (some .int), Cond.methodLink RX4 80 yX4_counted]
def wsL_law0_r13 : List Cond := [Cond.instanceMethod yX4_counted, Cond.selects RX4 yX4_counted yX4_counted, Cond.code yX4_counted cX4_counted 3 (some .int), Cond.methodLink RX4 73 yX4_heatNow, Cond.instanceMethod yX4_heatNow, Cond.selects RX4 yX4_heatNow yX4_heatNow, Cond.code yX4_heatNow cX4_heatNow 1 (some .int), Cond.methodLink RX4 77 yX4_sum, Cond.instanceMethod yX4_sum, Cond.selects RX4 yX4_sum yX4_sum, Cond.code yX4_sum cX4_sum 4 (some .int), Cond.methodLink RL 104 yX3_next, Cond.instanceMethod yX3_next, Cond.selects RX3 yX3_next yX3_next, Cond.code yX3_next cX3_next 1 (some .int), Cond.methodLink RX3 124 yX0_sellingTub, Cond.instanceMethod yX0_sellingTub, Cond.selects RX0 yX0_sellingTub yX0_sellingTub, Cond.code yX0_sellingTub cX0_sellingTub 4 (some .int), Cond.methodLink RL 107 yX4_next, Cond.instanceMethod yX4_next, Cond.selects RX4 yX4_next yX4_next, Cond.code yX4_next cX4_next 1 (some .int), Cond.methodLink RX4 83 yX4_nextTub]
def wsL_law0_r14 : List Cond := [Cond.instanceMethod yX4_nextTub, Cond.selects RX4 yX4_nextTub yX4_nextTub, Cond.code yX4_nextTub cX4_nextTub 3 (some .int), Cond.methodLink RL 108 yL_pass, Cond.static yL_pass, Cond.codeWith yL_pass cL_pass 4 (some .int) [(0, 9, 12, 15)], Cond.methodLink RL 49 yX3_pass, Cond.instanceMethod yX3_pass, Cond.selects RX3 yX3_pass yX3_pass, Cond.code yX3_pass cX3_pass 3 (some .int), Cond.methodLink RX3 128 yX3_checkHours, Cond.static yX3_checkHours, Cond.code yX3_checkHours cX3_checkHours 1 none, Cond.methodLink RX3 134 yX0_runHours, Cond.instanceMethod yX0_runHours, Cond.selects RX0 yX0_runHours yX0_runHours, Cond.code yX0_runHours cX0_runHours 3 none, Cond.methodLink RX0 80 yX0_runHour, Cond.instanceMethod yX0_runHour, Cond.selects RX0 yX0_runHour yX0_runHour, Cond.code yX0_runHour cX0_runHour 3 none, Cond.fieldLink RX0 83 "ColdCreamery$Cellar" "churnCount" "I", Cond.methodLink RX0 86 yX1_turn, Cond.instanceMethod yX1_turn]
def wsL_law0_r15 : List Cond := [Cond.selects RX1 yX1_turn yX1_turn, Cond.code yX1_turn cX1_turn 2 none, Cond.static yX3_firmAfterHour, Cond.code yX3_firmAfterHour cX3_firmAfterHour 2 (some .int), Cond.static yX3_coldAfterHour, Cond.code yX3_coldAfterHour cX3_coldAfterHour 2 (some .int), Cond.methodLink RX3 153 Lib.Math.max.name, Cond.methodLink RX0 90 yX2_standInHeat, Cond.instanceMethod yX2_standInHeat, Cond.selects RX2 yX2_standInHeat yX2_standInHeat, Cond.code yX2_standInHeat cX2_standInHeat 3 none, Cond.methodLink RX0 94 yX0_servePeople, Cond.instanceMethod yX0_servePeople, Cond.selects RX0 yX0_servePeople yX0_servePeople, Cond.code yX0_servePeople cX0_servePeople 5 none, Cond.methodLink RX0 104 yX0_serveOne, Cond.instanceMethod yX0_serveOne, Cond.selects RX0 yX0_serveOne yX0_serveOne, Cond.code yX0_serveOne cX0_serveOne 2 none, Cond.methodLink RX0 107 yX0_sellingTub, Cond.methodLink RX0 110 yX2_sellScoop, Cond.instanceMethod yX2_sellScoop, Cond.selects RX2 yX2_sellScoop yX2_sellScoop, Cond.code yX2_sellScoop cX2_sellScoop 1 (some .int)]
def wsL_law0_r16 : List Cond := [Cond.static yX3_iceAfterHour, Cond.code yX3_iceAfterHour cX3_iceAfterHour 3 (some .int), Cond.methodLink RX0 101 yX2_forgetSoftnessIfEmpty, Cond.instanceMethod yX2_forgetSoftnessIfEmpty, Cond.selects RX2 yX2_forgetSoftnessIfEmpty yX2_forgetSoftnessIfEmpty, Cond.code yX2_forgetSoftnessIfEmpty cX2_forgetSoftnessIfEmpty 1 none, Cond.methodLink RL 110 yX4_pass, Cond.instanceMethod yX4_pass, Cond.selects RX4 yX4_pass yX4_pass, Cond.code yX4_pass cX4_pass 4 (some .int), Cond.methodLink RX4 96 yX4_hourOn, Cond.instanceMethod yX4_hourOn, Cond.selects RX4 yX4_hourOn yX4_hourOn, Cond.code yX4_hourOn cX4_hourOn 3 none, Cond.methodLink RX4 86 yX4_firmUp, Cond.instanceMethod yX4_firmUp, Cond.selects RX4 yX4_firmUp yX4_firmUp, Cond.code yX4_firmUp cX4_firmUp 3 none, Cond.methodLink RX4 90 yX4_soften, Cond.instanceMethod yX4_soften, Cond.selects RX4 yX4_soften yX4_soften, Cond.code yX4_soften cX4_soften 4 none, Cond.methodLink RX4 93 yX4_sell, Cond.instanceMethod yX4_sell]
def wsL_law0_r17 : List Cond := [Cond.selects RX4 yX4_sell yX4_sell, Cond.code yX4_sell cX4_sell 2 none, Cond.methodLink RL 111 yL_done, Cond.static yL_done, Cond.codeWith yL_done cL_done 4 (some .int) [(0, 9, 12, 13)], Cond.methodLink RL 52 yX3_done, Cond.instanceMethod yX3_done, Cond.selects RX3 yX3_done yX3_done, Cond.code yX3_done cX3_done 2 (some .int), Cond.methodLink RX3 137 yX0_hoursUntilFirm, Cond.instanceMethod yX0_hoursUntilFirm, Cond.selects RX0 yX0_hoursUntilFirm yX0_hoursUntilFirm, Cond.code yX0_hoursUntilFirm cX0_hoursUntilFirm 5 (some .int), Cond.methodLink RL 113 yX4_done, Cond.instanceMethod yX4_done, Cond.selects RX4 yX4_done yX4_done, Cond.code yX4_done cX4_done 4 (some .int), Cond.methodLink RX4 105 yX4_keep, Cond.instanceMethod yX4_keep, Cond.selects RX4 yX4_keep yX4_keep, Cond.code yX4_keep cX4_keep 1 none, Cond.methodLink RX4 99 arraycopyName, Cond.native arraycopyName, Cond.static arraycopyName]
def wsL_law0_r18 : List Cond := [Cond.initialized "java/lang/System", Cond.methodLink RX4 108 yX4_bringBack, Cond.instanceMethod yX4_bringBack, Cond.selects RX4 yX4_bringBack yX4_bringBack, Cond.code yX4_bringBack cX4_bringBack 1 none, Cond.methodLink RL 114 yL_foresee, Cond.static yL_foresee, Cond.codeWith yL_foresee cL_foresee 5 (some .int) [(0, 10, 13, 15), (0, 10, 17, 13)], Cond.methodLink RL 55 yX3_foresee, Cond.instanceMethod yX3_foresee, Cond.selects RX3 yX3_foresee yX3_foresee, Cond.code yX3_foresee cX3_foresee 3 (some .int), Cond.methodLink RX3 143 yX0_copyFrom, Cond.instanceMethod yX0_copyFrom, Cond.selects RX0 yX0_copyFrom yX0_copyFrom, Cond.code yX0_copyFrom cX0_copyFrom 3 none, Cond.methodLink RX0 128 arraycopyName, Cond.methodLink RX0 134 yX1_copyFrom, Cond.instanceMethod yX1_copyFrom, Cond.selects RX1 yX1_copyFrom yX1_copyFrom, Cond.code yX1_copyFrom cX1_copyFrom 2 none, Cond.methodLink RX0 138 yX2_copyFrom, Cond.instanceMethod yX2_copyFrom, Cond.selects RX2 yX2_copyFrom yX2_copyFrom]
def wsL_law0_r19 : List Cond := [Cond.code yX2_copyFrom cX2_copyFrom 2 none, Cond.methodLink RL 116 yX4_foresee, Cond.instanceMethod yX4_foresee, Cond.selects RX4 yX4_foresee yX4_foresee, Cond.code yX4_foresee cX4_foresee 4 (some .int), Cond.methodLink RL 117 yX3_lasts, Cond.instanceMethod yX3_lasts, Cond.selects RX3 yX3_lasts yX3_lasts, Cond.code yX3_lasts cX3_lasts 1 (some .int), Cond.methodLink RX3 147 yX0_hoursUntilNoIce, Cond.instanceMethod yX0_hoursUntilNoIce, Cond.selects RX0 yX0_hoursUntilNoIce yX0_hoursUntilNoIce, Cond.code yX0_hoursUntilNoIce cX0_hoursUntilNoIce 3 (some .int), Cond.methodLink RL 120 yX4_lasts, Cond.instanceMethod yX4_lasts, Cond.selects RX4 yX4_lasts yX4_lasts, Cond.code yX4_lasts cX4_lasts 3 (some .int), Cond.methodLink RL 121 yL_salt, Cond.static yL_salt, Cond.codeWith yL_salt cL_salt 5 (some .int) [(0, 10, 13, 13), (0, 10, 17, 15)], Cond.methodLink RL 58 yX3_salt, Cond.instanceMethod yX3_salt, Cond.selects RX3 yX3_salt yX3_salt, Cond.code yX3_salt cX3_salt 6 (some .int)]
def wsL_law0_r20 : List Cond := [Cond.methodLink RL 123 yX4_salt, Cond.instanceMethod yX4_salt, Cond.selects RX4 yX4_salt yX4_salt, Cond.code yX4_salt cX4_salt 5 (some .int), Cond.methodLink RL 124 yX3_share, Cond.instanceMethod yX3_share, Cond.selects RX3 yX3_share yX3_share, Cond.code yX3_share cX3_share 3 (some .double), Cond.methodLink RX3 156 yX0_soldScoops, Cond.methodLink RL 128 yX4_share, Cond.instanceMethod yX4_share, Cond.selects RX4 yX4_share yX4_share, Cond.code yX4_share cX4_share 2 (some .double), Cond.methodLink RL 129 yX3_digest, Cond.instanceMethod yX3_digest, Cond.selects RX3 yX3_digest yX3_digest, Cond.code yX3_digest cX3_digest 5 (some .long), Cond.constantLong RX3 162 (1103), Cond.methodLink RX3 164 yX3_mixed, Cond.static yX3_mixed, Cond.code yX3_mixed cX3_mixed 4 (some .long), Cond.constantLong RX3 184 (31), Cond.methodLink RL 133 yX4_digest, Cond.instanceMethod yX4_digest]
def wsL_law0_r21 : List Cond := [Cond.selects RX4 yX4_digest yX4_digest, Cond.code yX4_digest cX4_digest 4 (some .long), Cond.constantLong RX4 111 (1103), Cond.constantLong RX4 113 (31)]
def wsL_law0 : List Cond := (wsL_law0_r1 ++ (wsL_law0_r2 ++ (wsL_law0_r3 ++ (wsL_law0_r4 ++ (wsL_law0_r5 ++ (wsL_law0_r6 ++ (wsL_law0_r7 ++ (wsL_law0_r8 ++ (wsL_law0_r9 ++ (wsL_law0_r10 ++ (wsL_law0_r11 ++ (wsL_law0_r12 ++ (wsL_law0_r13 ++ (wsL_law0_r14 ++ (wsL_law0_r15 ++ (wsL_law0_r16 ++ (wsL_law0_r17 ++ (wsL_law0_r18 ++ (wsL_law0_r19 ++ (wsL_law0_r20 ++ wsL_law0_r21)))))))))))))))))))) ++ wsX30 ++ wsX40 ++ wsX00 ++ wsX10 ++ wsX20 ++ ([] : List Cond)
def wsL_law : List Cond := wsL_law0 ++ (vx_atS RX3 23 "java/lang/IndexOutOfBoundsException" ["java/lang/RuntimeException", "java/lang/Exception"]).filter goodWord ++ (vx_atS RX3 30 "java/lang/IllegalArgumentException" ["java/lang/RuntimeException", "java/lang/Exception"]).filter goodWord ++ (vx_atS RX3 59 "java/lang/IllegalStateException" ["java/lang/RuntimeException", "java/lang/Exception"]).filter goodWord
abbrev vwCl : List vw_C := [(RX0, TX0, 9), (RX1, TX1, 3), (RX2, TX2, 3), (RX3, TX3, 2), (RX4, TX4, 6)]
end
section
set_option maxRecDepth 20000 in
theorem ggX0_init_J7_fill_53178 : GoodIn wsX0_init wsJ7_fill_53178 := goodIn_r _ [18] (by decide +kernel) (by decide +kernel)
set_option maxRecDepth 20000 in
theorem gX0_init_J7_fill_53178 : GoodIn wsX0_init (va_wsS RX0 33 yJ7_fill_53178 wsJ7_fill_53178) := goodIn_app (goodIn_of _ (by decide +kernel)) ggX0_init_J7_fill_53178
set_option maxRecDepth 20000 in
theorem ggX0_init_X1_init : GoodIn wsX0_init wsX1_init := goodIn_r _ [20, 21, 2, 3] (by decide +kernel) (by decide +kernel)
set_option maxRecDepth 20000 in
theorem gX0_init_X1_init_n39 : GoodIn wsX0_init (wsX1_init) := ggX0_init_X1_init
set_option maxRecDepth 20000 in
theorem ggX0_init_X2_init : GoodIn wsX0_init wsX2_init := goodIn_r _ [23, 24, 2, 3] (by decide +kernel) (by decide +kernel)
set_option maxRecDepth 20000 in
theorem gX0_init_X2_init_n40 : GoodIn wsX0_init (wsX2_init) := ggX0_init_X2_init
theorem dX0_init_0 : decode cX0_init 0 = .ok (.aload_n 0, 1) := by decide +kernel
theorem dX0_init_1 : decode cX0_init 1 = .ok (.invokespecial 3, 3) := by decide +kernel
theorem dX0_init_4 : decode cX0_init 4 = .ok (.aload_n 0, 1) := by decide +kernel
theorem dX0_init_5 : decode cX0_init 5 = .ok (.getstatic 9, 3) := by decide +kernel
theorem dX0_init_8 : decode cX0_init 8 = .ok (.arraylength, 1) := by decide +kernel
theorem dX0_init_9 : decode cX0_init 9 = .ok (.newarray .int, 2) := by decide +kernel
theorem dX0_init_11 : decode cX0_init 11 = .ok (.putfield 13, 3) := by decide +kernel
theorem dX0_init_14 : decode cX0_init 14 = .ok (.aload_n 0, 1) := by decide +kernel
theorem dX0_init_15 : decode cX0_init 15 = .ok (.bipush 7, 2) := by decide +kernel
theorem dX0_init_17 : decode cX0_init 17 = .ok (.newarray .int, 2) := by decide +kernel
theorem dX0_init_19 : decode cX0_init 19 = .ok (.putfield 18, 3) := by decide +kernel
theorem dX0_init_22 : decode cX0_init 22 = .ok (.aload_n 0, 1) := by decide +kernel
theorem dX0_init_23 : decode cX0_init 23 = .ok (.iconst 4, 1) := by decide +kernel
theorem dX0_init_24 : decode cX0_init 24 = .ok (.anewarray 21, 3) := by decide +kernel
theorem dX0_init_27 : decode cX0_init 27 = .ok (.putfield 23, 3) := by decide +kernel
theorem dX0_init_30 : decode cX0_init 30 = .ok (.aload_n 0, 1) := by decide +kernel
theorem dX0_init_31 : decode cX0_init 31 = .ok (.bipush 6, 2) := by decide +kernel
theorem dX0_init_33 : decode cX0_init 33 = .ok (.anewarray 27, 3) := by decide +kernel
theorem dX0_init_36 : decode cX0_init 36 = .ok (.putfield 29, 3) := by decide +kernel
theorem dX0_init_39 : decode cX0_init 39 = .ok (.aload_n 0, 1) := by decide +kernel
theorem dX0_init_40 : decode cX0_init 40 = .ok (.getfield 18, 3) := by decide +kernel
theorem dX0_init_43 : decode cX0_init 43 = .ok (.bipush 20, 2) := by decide +kernel
theorem dX0_init_45 : decode cX0_init 45 = .ok (.invokestatic 33, 3) := by decide +kernel
theorem dX0_init_48 : decode cX0_init 48 = .ok (.iconst 0, 1) := by decide +kernel
theorem dX0_init_49 : decode cX0_init 49 = .ok (.istore_n 1, 1) := by decide +kernel
theorem dX0_init_50 : decode cX0_init 50 = .ok (.iload_n 1, 1) := by decide +kernel
theorem dX0_init_51 : decode cX0_init 51 = .ok (.iconst 4, 1) := by decide +kernel
theorem dX0_init_52 : decode cX0_init 52 = .ok (.if_icmp .ge 22, 3) := by decide +kernel
theorem dX0_init_55 : decode cX0_init 55 = .ok (.aload_n 0, 1) := by decide +kernel
theorem dX0_init_56 : decode cX0_init 56 = .ok (.getfield 23, 3) := by decide +kernel
theorem dX0_init_59 : decode cX0_init 59 = .ok (.iload_n 1, 1) := by decide +kernel
theorem dX0_init_60 : decode cX0_init 60 = .ok (.new 21, 3) := by decide +kernel
theorem dX0_init_63 : decode cX0_init 63 = .ok (.dup, 1) := by decide +kernel
theorem dX0_init_64 : decode cX0_init 64 = .ok (.invokespecial 39, 3) := by decide +kernel
theorem dX0_init_67 : decode cX0_init 67 = .ok (.aastore, 1) := by decide +kernel
theorem dX0_init_68 : decode cX0_init 68 = .ok (.iinc 1 1, 3) := by decide +kernel
theorem dX0_init_71 : decode cX0_init 71 = .ok (.goto (-21), 3) := by decide +kernel
theorem dX0_init_74 : decode cX0_init 74 = .ok (.iconst 0, 1) := by decide +kernel
theorem dX0_init_75 : decode cX0_init 75 = .ok (.istore_n 1, 1) := by decide +kernel
theorem dX0_init_76 : decode cX0_init 76 = .ok (.iload_n 1, 1) := by decide +kernel
theorem dX0_init_77 : decode cX0_init 77 = .ok (.bipush 6, 2) := by decide +kernel
theorem dX0_init_79 : decode cX0_init 79 = .ok (.if_icmp .ge 22, 3) := by decide +kernel
theorem dX0_init_82 : decode cX0_init 82 = .ok (.aload_n 0, 1) := by decide +kernel
theorem dX0_init_83 : decode cX0_init 83 = .ok (.getfield 29, 3) := by decide +kernel
theorem dX0_init_86 : decode cX0_init 86 = .ok (.iload_n 1, 1) := by decide +kernel
theorem dX0_init_87 : decode cX0_init 87 = .ok (.new 27, 3) := by decide +kernel
theorem dX0_init_90 : decode cX0_init 90 = .ok (.dup, 1) := by decide +kernel
theorem dX0_init_91 : decode cX0_init 91 = .ok (.invokespecial 40, 3) := by decide +kernel
theorem dX0_init_94 : decode cX0_init 94 = .ok (.aastore, 1) := by decide +kernel
theorem dX0_init_95 : decode cX0_init 95 = .ok (.iinc 1 1, 3) := by decide +kernel
theorem dX0_init_98 : decode cX0_init 98 = .ok (.goto (-22), 3) := by decide +kernel
theorem dX0_init_101 : decode cX0_init 101 = .ok (.return_, 1) := by decide +kernel
set_option maxRecDepth 20000 in
theorem ggX0_number_X0_heatAt : GoodIn wsX0_number wsX0_heatAt := goodIn_r _ [9, 10, 11, 12, 13, 14, 25, 26, 27, 28, 29, 30, 31, 32, 33] (by decide +kernel) (by decide +kernel)
set_option maxRecDepth 20000 in
theorem gX0_number_X0_heatAt : GoodIn wsX0_number (wsV RX0 45 RX0 yX0_heatAt wsX0_heatAt) := goodIn_app (goodIn_of _ (by decide +kernel)) ggX0_number_X0_heatAt
set_option maxRecDepth 20000 in
theorem ggX0_number_X0_scoopsInTubs : GoodIn wsX0_number wsX0_scoopsInTubs := goodIn_r _ [18, 19, 20, 25, 26, 27, 28, 29, 30, 31, 32, 33, 34, 35, 36] (by decide +kernel) (by decide +kernel)
set_option maxRecDepth 20000 in
theorem gX0_number_X0_scoopsInTubs : GoodIn wsX0_number (wsV RX0 52 RX0 yX0_scoopsInTubs wsX0_scoopsInTubs) := goodIn_app (goodIn_of _ (by decide +kernel)) ggX0_number_X0_scoopsInTubs
set_option maxRecDepth 20000 in
theorem ggX0_number_X0_soldScoops : GoodIn wsX0_number wsX0_soldScoops := goodIn_r _ [24, 19, 20, 25, 26, 27, 28, 29, 30, 31, 32, 33, 34, 35, 36] (by decide +kernel) (by decide +kernel)
set_option maxRecDepth 20000 in
theorem gX0_number_X0_soldScoops : GoodIn wsX0_number (wsV RX0 56 RX0 yX0_soldScoops wsX0_soldScoops) := goodIn_app (goodIn_of _ (by decide +kernel)) ggX0_number_X0_soldScoops
theorem dX0_number_0 : decode cX0_number 0 = .ok (.iload_n 1, 1) := by decide +kernel
theorem dX0_number_1 : decode cX0_number 1 = .ok (.tableswitch 108 0 8 #[51, 56, 65, 72, 79, 86, 93, 98, 103], 51) := by decide +kernel
theorem dX0_number_52 : decode cX0_number 52 = .ok (.aload_n 0, 1) := by decide +kernel
theorem dX0_number_53 : decode cX0_number 53 = .ok (.getfield 41, 3) := by decide +kernel
theorem dX0_number_56 : decode cX0_number 56 = .ok (.ireturn, 1) := by decide +kernel
theorem dX0_number_57 : decode cX0_number 57 = .ok (.aload_n 0, 1) := by decide +kernel
theorem dX0_number_58 : decode cX0_number 58 = .ok (.aload_n 0, 1) := by decide +kernel
theorem dX0_number_59 : decode cX0_number 59 = .ok (.getfield 41, 3) := by decide +kernel
theorem dX0_number_62 : decode cX0_number 62 = .ok (.invokevirtual 45, 3) := by decide +kernel
theorem dX0_number_65 : decode cX0_number 65 = .ok (.ireturn, 1) := by decide +kernel
theorem dX0_number_66 : decode cX0_number 66 = .ok (.aload_n 0, 1) := by decide +kernel
theorem dX0_number_67 : decode cX0_number 67 = .ok (.getfield 13, 3) := by decide +kernel
theorem dX0_number_70 : decode cX0_number 70 = .ok (.iconst 0, 1) := by decide +kernel
theorem dX0_number_71 : decode cX0_number 71 = .ok (.iaload, 1) := by decide +kernel
theorem dX0_number_72 : decode cX0_number 72 = .ok (.ireturn, 1) := by decide +kernel
theorem dX0_number_73 : decode cX0_number 73 = .ok (.aload_n 0, 1) := by decide +kernel
theorem dX0_number_74 : decode cX0_number 74 = .ok (.getfield 13, 3) := by decide +kernel
theorem dX0_number_77 : decode cX0_number 77 = .ok (.iconst 1, 1) := by decide +kernel
theorem dX0_number_78 : decode cX0_number 78 = .ok (.iaload, 1) := by decide +kernel
theorem dX0_number_79 : decode cX0_number 79 = .ok (.ireturn, 1) := by decide +kernel
theorem dX0_number_80 : decode cX0_number 80 = .ok (.aload_n 0, 1) := by decide +kernel
theorem dX0_number_81 : decode cX0_number 81 = .ok (.getfield 13, 3) := by decide +kernel
theorem dX0_number_84 : decode cX0_number 84 = .ok (.iconst 2, 1) := by decide +kernel
theorem dX0_number_85 : decode cX0_number 85 = .ok (.iaload, 1) := by decide +kernel
theorem dX0_number_86 : decode cX0_number 86 = .ok (.ireturn, 1) := by decide +kernel
theorem dX0_number_87 : decode cX0_number 87 = .ok (.aload_n 0, 1) := by decide +kernel
theorem dX0_number_88 : decode cX0_number 88 = .ok (.getfield 13, 3) := by decide +kernel
theorem dX0_number_91 : decode cX0_number 91 = .ok (.iconst 3, 1) := by decide +kernel
theorem dX0_number_92 : decode cX0_number 92 = .ok (.iaload, 1) := by decide +kernel
theorem dX0_number_93 : decode cX0_number 93 = .ok (.ireturn, 1) := by decide +kernel
theorem dX0_number_94 : decode cX0_number 94 = .ok (.aload_n 0, 1) := by decide +kernel
theorem dX0_number_95 : decode cX0_number 95 = .ok (.getfield 49, 3) := by decide +kernel
theorem dX0_number_98 : decode cX0_number 98 = .ok (.ireturn, 1) := by decide +kernel
theorem dX0_number_99 : decode cX0_number 99 = .ok (.aload_n 0, 1) := by decide +kernel
theorem dX0_number_100 : decode cX0_number 100 = .ok (.invokevirtual 52, 3) := by decide +kernel
theorem dX0_number_103 : decode cX0_number 103 = .ok (.ireturn, 1) := by decide +kernel
theorem dX0_number_104 : decode cX0_number 104 = .ok (.aload_n 0, 1) := by decide +kernel
theorem dX0_number_105 : decode cX0_number 105 = .ok (.invokevirtual 56, 3) := by decide +kernel
theorem dX0_number_108 : decode cX0_number 108 = .ok (.ireturn, 1) := by decide +kernel
theorem dX0_number_109 : decode cX0_number 109 = .ok (.aload_n 0, 1) := by decide +kernel
theorem dX0_number_110 : decode cX0_number 110 = .ok (.getfield 59, 3) := by decide +kernel
theorem dX0_number_113 : decode cX0_number 113 = .ok (.ireturn, 1) := by decide +kernel
set_option maxRecDepth 20000 in
theorem ggX0_heatAt_J9_floorMod_7cf53 : GoodIn wsX0_heatAt wsJ9_floorMod_7cf53 := goodIn_r _ [5] (by decide +kernel) (by decide +kernel)
set_option maxRecDepth 20000 in
theorem gX0_heatAt_J9_floorMod_7cf53 : GoodIn wsX0_heatAt (va_wsS RX0 62 yJ9_floorMod_7cf53 wsJ9_floorMod_7cf53) := goodIn_app (goodIn_of _ (by decide +kernel)) ggX0_heatAt_J9_floorMod_7cf53
theorem dX0_heatAt_0 : decode cX0_heatAt 0 = .ok (.aload_n 0, 1) := by decide +kernel
theorem dX0_heatAt_1 : decode cX0_heatAt 1 = .ok (.getfield 18, 3) := by decide +kernel
theorem dX0_heatAt_4 : decode cX0_heatAt 4 = .ok (.iload_n 1, 1) := by decide +kernel
theorem dX0_heatAt_5 : decode cX0_heatAt 5 = .ok (.bipush 24, 2) := by decide +kernel
theorem dX0_heatAt_7 : decode cX0_heatAt 7 = .ok (.idiv, 1) := by decide +kernel
theorem dX0_heatAt_8 : decode cX0_heatAt 8 = .ok (.bipush 7, 2) := by decide +kernel
theorem dX0_heatAt_10 : decode cX0_heatAt 10 = .ok (.invokestatic 62, 3) := by decide +kernel
theorem dX0_heatAt_13 : decode cX0_heatAt 13 = .ok (.iaload, 1) := by decide +kernel
theorem dX0_heatAt_14 : decode cX0_heatAt 14 = .ok (.ireturn, 1) := by decide +kernel
theorem dX0_scoopsInTubs_0 : decode cX0_scoopsInTubs 0 = .ok (.iconst 0, 1) := by decide +kernel
theorem dX0_scoopsInTubs_1 : decode cX0_scoopsInTubs 1 = .ok (.istore_n 1, 1) := by decide +kernel
theorem dX0_scoopsInTubs_2 : decode cX0_scoopsInTubs 2 = .ok (.iconst 0, 1) := by decide +kernel
theorem dX0_scoopsInTubs_3 : decode cX0_scoopsInTubs 3 = .ok (.istore_n 2, 1) := by decide +kernel
theorem dX0_scoopsInTubs_4 : decode cX0_scoopsInTubs 4 = .ok (.iload_n 2, 1) := by decide +kernel
theorem dX0_scoopsInTubs_5 : decode cX0_scoopsInTubs 5 = .ok (.aload_n 0, 1) := by decide +kernel
theorem dX0_scoopsInTubs_6 : decode cX0_scoopsInTubs 6 = .ok (.getfield 68, 3) := by decide +kernel
theorem dX0_scoopsInTubs_9 : decode cX0_scoopsInTubs 9 = .ok (.if_icmp .ge 21, 3) := by decide +kernel
theorem dX0_scoopsInTubs_12 : decode cX0_scoopsInTubs 12 = .ok (.iload_n 1, 1) := by decide +kernel
theorem dX0_scoopsInTubs_13 : decode cX0_scoopsInTubs 13 = .ok (.aload_n 0, 1) := by decide +kernel
theorem dX0_scoopsInTubs_14 : decode cX0_scoopsInTubs 14 = .ok (.getfield 29, 3) := by decide +kernel
theorem dX0_scoopsInTubs_17 : decode cX0_scoopsInTubs 17 = .ok (.iload_n 2, 1) := by decide +kernel
theorem dX0_scoopsInTubs_18 : decode cX0_scoopsInTubs 18 = .ok (.aaload, 1) := by decide +kernel
theorem dX0_scoopsInTubs_19 : decode cX0_scoopsInTubs 19 = .ok (.getfield 71, 3) := by decide +kernel
theorem dX0_scoopsInTubs_22 : decode cX0_scoopsInTubs 22 = .ok (.iadd, 1) := by decide +kernel
theorem dX0_scoopsInTubs_23 : decode cX0_scoopsInTubs 23 = .ok (.istore_n 1, 1) := by decide +kernel
theorem dX0_scoopsInTubs_24 : decode cX0_scoopsInTubs 24 = .ok (.iinc 2 1, 3) := by decide +kernel
theorem dX0_scoopsInTubs_27 : decode cX0_scoopsInTubs 27 = .ok (.goto (-23), 3) := by decide +kernel
theorem dX0_scoopsInTubs_30 : decode cX0_scoopsInTubs 30 = .ok (.iload_n 1, 1) := by decide +kernel
theorem dX0_scoopsInTubs_31 : decode cX0_scoopsInTubs 31 = .ok (.ireturn, 1) := by decide +kernel
theorem dX0_soldScoops_0 : decode cX0_soldScoops 0 = .ok (.iconst 0, 1) := by decide +kernel
theorem dX0_soldScoops_1 : decode cX0_soldScoops 1 = .ok (.istore_n 1, 1) := by decide +kernel
theorem dX0_soldScoops_2 : decode cX0_soldScoops 2 = .ok (.iconst 0, 1) := by decide +kernel
theorem dX0_soldScoops_3 : decode cX0_soldScoops 3 = .ok (.istore_n 2, 1) := by decide +kernel
theorem dX0_soldScoops_4 : decode cX0_soldScoops 4 = .ok (.iload_n 2, 1) := by decide +kernel
theorem dX0_soldScoops_5 : decode cX0_soldScoops 5 = .ok (.aload_n 0, 1) := by decide +kernel
theorem dX0_soldScoops_6 : decode cX0_soldScoops 6 = .ok (.getfield 68, 3) := by decide +kernel
theorem dX0_soldScoops_9 : decode cX0_soldScoops 9 = .ok (.if_icmp .ge 21, 3) := by decide +kernel
theorem dX0_soldScoops_12 : decode cX0_soldScoops 12 = .ok (.iload_n 1, 1) := by decide +kernel
theorem dX0_soldScoops_13 : decode cX0_soldScoops 13 = .ok (.aload_n 0, 1) := by decide +kernel
theorem dX0_soldScoops_14 : decode cX0_soldScoops 14 = .ok (.getfield 29, 3) := by decide +kernel
theorem dX0_soldScoops_17 : decode cX0_soldScoops 17 = .ok (.iload_n 2, 1) := by decide +kernel
theorem dX0_soldScoops_18 : decode cX0_soldScoops 18 = .ok (.aaload, 1) := by decide +kernel
theorem dX0_soldScoops_19 : decode cX0_soldScoops 19 = .ok (.getfield 74, 3) := by decide +kernel
theorem dX0_soldScoops_22 : decode cX0_soldScoops 22 = .ok (.iadd, 1) := by decide +kernel
theorem dX0_soldScoops_23 : decode cX0_soldScoops 23 = .ok (.istore_n 1, 1) := by decide +kernel
theorem dX0_soldScoops_24 : decode cX0_soldScoops 24 = .ok (.iinc 2 1, 3) := by decide +kernel
theorem dX0_soldScoops_27 : decode cX0_soldScoops 27 = .ok (.goto (-23), 3) := by decide +kernel
theorem dX0_soldScoops_30 : decode cX0_soldScoops 30 = .ok (.iload_n 1, 1) := by decide +kernel
theorem dX0_soldScoops_31 : decode cX0_soldScoops 31 = .ok (.ireturn, 1) := by decide +kernel
theorem dX0_sellingTub_0 : decode cX0_sellingTub 0 = .ok (.iconst (-1), 1) := by decide +kernel
theorem dX0_sellingTub_1 : decode cX0_sellingTub 1 = .ok (.istore_n 1, 1) := by decide +kernel
theorem dX0_sellingTub_2 : decode cX0_sellingTub 2 = .ok (.bipush 101, 2) := by decide +kernel
theorem dX0_sellingTub_4 : decode cX0_sellingTub 4 = .ok (.istore_n 2, 1) := by decide +kernel
theorem dX0_sellingTub_5 : decode cX0_sellingTub 5 = .ok (.iconst 0, 1) := by decide +kernel
theorem dX0_sellingTub_6 : decode cX0_sellingTub 6 = .ok (.istore_n 3, 1) := by decide +kernel
theorem dX0_sellingTub_7 : decode cX0_sellingTub 7 = .ok (.iload_n 3, 1) := by decide +kernel
theorem dX0_sellingTub_8 : decode cX0_sellingTub 8 = .ok (.aload_n 0, 1) := by decide +kernel
theorem dX0_sellingTub_9 : decode cX0_sellingTub 9 = .ok (.getfield 68, 3) := by decide +kernel
theorem dX0_sellingTub_12 : decode cX0_sellingTub 12 = .ok (.if_icmp .ge 46, 3) := by decide +kernel
theorem dX0_sellingTub_15 : decode cX0_sellingTub 15 = .ok (.aload_n 0, 1) := by decide +kernel
theorem dX0_sellingTub_16 : decode cX0_sellingTub 16 = .ok (.getfield 29, 3) := by decide +kernel
theorem dX0_sellingTub_19 : decode cX0_sellingTub 19 = .ok (.iload_n 3, 1) := by decide +kernel
theorem dX0_sellingTub_20 : decode cX0_sellingTub 20 = .ok (.aaload, 1) := by decide +kernel
theorem dX0_sellingTub_21 : decode cX0_sellingTub 21 = .ok (.getfield 71, 3) := by decide +kernel
theorem dX0_sellingTub_24 : decode cX0_sellingTub 24 = .ok (.ifCond .le 28, 3) := by decide +kernel
theorem dX0_sellingTub_27 : decode cX0_sellingTub 27 = .ok (.aload_n 0, 1) := by decide +kernel
theorem dX0_sellingTub_28 : decode cX0_sellingTub 28 = .ok (.getfield 29, 3) := by decide +kernel
theorem dX0_sellingTub_31 : decode cX0_sellingTub 31 = .ok (.iload_n 3, 1) := by decide +kernel
theorem dX0_sellingTub_32 : decode cX0_sellingTub 32 = .ok (.aaload, 1) := by decide +kernel
theorem dX0_sellingTub_33 : decode cX0_sellingTub 33 = .ok (.getfield 77, 3) := by decide +kernel
theorem dX0_sellingTub_36 : decode cX0_sellingTub 36 = .ok (.iload_n 2, 1) := by decide +kernel
theorem dX0_sellingTub_37 : decode cX0_sellingTub 37 = .ok (.if_icmp .ge 15, 3) := by decide +kernel
theorem dX0_sellingTub_40 : decode cX0_sellingTub 40 = .ok (.iload_n 3, 1) := by decide +kernel
theorem dX0_sellingTub_41 : decode cX0_sellingTub 41 = .ok (.istore_n 1, 1) := by decide +kernel
theorem dX0_sellingTub_42 : decode cX0_sellingTub 42 = .ok (.aload_n 0, 1) := by decide +kernel
theorem dX0_sellingTub_43 : decode cX0_sellingTub 43 = .ok (.getfield 29, 3) := by decide +kernel
theorem dX0_sellingTub_46 : decode cX0_sellingTub 46 = .ok (.iload_n 3, 1) := by decide +kernel
theorem dX0_sellingTub_47 : decode cX0_sellingTub 47 = .ok (.aaload, 1) := by decide +kernel
theorem dX0_sellingTub_48 : decode cX0_sellingTub 48 = .ok (.getfield 77, 3) := by decide +kernel
theorem dX0_sellingTub_51 : decode cX0_sellingTub 51 = .ok (.istore_n 2, 1) := by decide +kernel
theorem dX0_sellingTub_52 : decode cX0_sellingTub 52 = .ok (.iinc 3 1, 3) := by decide +kernel
theorem dX0_sellingTub_55 : decode cX0_sellingTub 55 = .ok (.goto (-48), 3) := by decide +kernel
theorem dX0_sellingTub_58 : decode cX0_sellingTub 58 = .ok (.iload_n 1, 1) := by decide +kernel
theorem dX0_sellingTub_59 : decode cX0_sellingTub 59 = .ok (.ireturn, 1) := by decide +kernel
set_option maxRecDepth 20000 in
theorem ggX0_runHours_X0_runHour : GoodIn wsX0_runHours wsX0_runHour := goodIn_r _ [5, 6, 7, 8, 9, 10, 11, 12, 13, 14, 4, 15, 16, 17, 18, 19, 20, 21, 22, 23, 24, 25, 26, 27, 28, 29, 30, 31, 32, 33, 34, 35, 36, 37, 38, 39, 40, 41, 42, 43, 44, 45, 46, 47, 48, 49, 50, 51, 52, 53, 54, 55, 56, 57, 58, 59, 60, 61, 62, 63, 64, 65, 66, 67, 68, 69, 70, 71, 72, 73, 74, 75, 76, 77, 78, 79, 80, 81, 82, 83, 84, 85, 86, 87, 88, 89] (by decide +kernel) (by decide +kernel)
set_option maxRecDepth 20000 in
theorem gX0_runHours_X0_runHour : GoodIn wsX0_runHours (wsV RX0 80 RX0 yX0_runHour wsX0_runHour) := goodIn_app (goodIn_of _ (by decide +kernel)) ggX0_runHours_X0_runHour
theorem dX0_runHours_0 : decode cX0_runHours 0 = .ok (.iconst 0, 1) := by decide +kernel
theorem dX0_runHours_1 : decode cX0_runHours 1 = .ok (.istore_n 2, 1) := by decide +kernel
theorem dX0_runHours_2 : decode cX0_runHours 2 = .ok (.iload_n 2, 1) := by decide +kernel
theorem dX0_runHours_3 : decode cX0_runHours 3 = .ok (.iload_n 1, 1) := by decide +kernel
theorem dX0_runHours_4 : decode cX0_runHours 4 = .ok (.if_icmp .ge 13, 3) := by decide +kernel
theorem dX0_runHours_7 : decode cX0_runHours 7 = .ok (.aload_n 0, 1) := by decide +kernel
theorem dX0_runHours_8 : decode cX0_runHours 8 = .ok (.invokevirtual 80, 3) := by decide +kernel
theorem dX0_runHours_11 : decode cX0_runHours 11 = .ok (.iinc 2 1, 3) := by decide +kernel
theorem dX0_runHours_14 : decode cX0_runHours 14 = .ok (.goto (-12), 3) := by decide +kernel
theorem dX0_runHours_17 : decode cX0_runHours 17 = .ok (.return_, 1) := by decide +kernel
set_option maxRecDepth 20000 in
theorem ggX0_runHour_X0_heatAt : GoodIn wsX0_runHour wsX0_heatAt := goodIn_r _ [11, 12, 13, 14, 15, 16, 71, 72, 73, 74, 75, 76, 77, 78, 79] (by decide +kernel) (by decide +kernel)
set_option maxRecDepth 20000 in
theorem gX0_runHour_X0_heatAt : GoodIn wsX0_runHour (wsV RX0 45 RX0 yX0_heatAt wsX0_heatAt) := goodIn_app (goodIn_of _ (by decide +kernel)) ggX0_runHour_X0_heatAt
set_option maxRecDepth 20000 in
theorem ggX0_runHour_X1_turn : GoodIn wsX0_runHour wsX1_turn := goodIn_r _ [21, 22, 23, 24, 25, 26, 27, 28, 29, 30, 31, 32, 33, 34, 35, 36, 80, 81, 82] (by decide +kernel) (by decide +kernel)
set_option maxRecDepth 20000 in
theorem gX0_runHour_X1_turn : GoodIn wsX0_runHour (wsV RX0 86 RX1 yX1_turn wsX1_turn) := goodIn_app (goodIn_of _ (by decide +kernel)) ggX0_runHour_X1_turn
set_option maxRecDepth 20000 in
theorem ggX0_runHour_X2_standInHeat : GoodIn wsX0_runHour wsX2_standInHeat := goodIn_r _ [41, 42, 43, 44, 29, 30, 31, 45, 35, 36, 83, 84, 85] (by decide +kernel) (by decide +kernel)
set_option maxRecDepth 20000 in
theorem gX0_runHour_X2_standInHeat : GoodIn wsX0_runHour (wsV RX0 90 RX2 yX2_standInHeat wsX2_standInHeat) := goodIn_app (goodIn_of _ (by decide +kernel)) ggX0_runHour_X2_standInHeat
set_option maxRecDepth 20000 in
theorem ggX0_runHour_X0_servePeople : GoodIn wsX0_runHour wsX0_servePeople := goodIn_r _ [49, 1, 50, 51, 52, 10, 53, 6, 54, 55, 5, 56, 57, 58, 59, 4, 60, 61, 62, 40, 63, 42, 64, 43, 71, 72, 73, 74, 75, 76, 77, 78, 79, 83, 84, 85] (by decide +kernel) (by decide +kernel)
set_option maxRecDepth 20000 in
theorem gX0_runHour_X0_servePeople : GoodIn wsX0_runHour (wsV RX0 94 RX0 yX0_servePeople wsX0_servePeople) := goodIn_app (goodIn_of _ (by decide +kernel)) ggX0_runHour_X0_servePeople
set_option maxRecDepth 20000 in
theorem ggX0_runHour_X3_iceAfterHour : GoodIn wsX0_runHour wsX3_iceAfterHour := goodIn_r _ [66, 34, 35, 30, 36] (by decide +kernel) (by decide +kernel)
set_option maxRecDepth 20000 in
theorem gX0_runHour_X3_iceAfterHour_n97 : GoodIn wsX0_runHour (wsX3_iceAfterHour) := ggX0_runHour_X3_iceAfterHour
set_option maxRecDepth 20000 in
theorem ggX0_runHour_X2_forgetSoftnessIfEmpty : GoodIn wsX0_runHour wsX2_forgetSoftnessIfEmpty := goodIn_r _ [70, 42, 43, 83, 84, 85] (by decide +kernel) (by decide +kernel)
set_option maxRecDepth 20000 in
theorem gX0_runHour_X2_forgetSoftnessIfEmpty : GoodIn wsX0_runHour (wsV RX0 101 RX2 yX2_forgetSoftnessIfEmpty wsX2_forgetSoftnessIfEmpty) := goodIn_app (goodIn_of _ (by decide +kernel)) ggX0_runHour_X2_forgetSoftnessIfEmpty
theorem dX0_runHour_0 : decode cX0_runHour 0 = .ok (.aload_n 0, 1) := by decide +kernel
theorem dX0_runHour_1 : decode cX0_runHour 1 = .ok (.aload_n 0, 1) := by decide +kernel
theorem dX0_runHour_2 : decode cX0_runHour 2 = .ok (.getfield 41, 3) := by decide +kernel
theorem dX0_runHour_5 : decode cX0_runHour 5 = .ok (.invokevirtual 45, 3) := by decide +kernel
theorem dX0_runHour_8 : decode cX0_runHour 8 = .ok (.istore_n 1, 1) := by decide +kernel
theorem dX0_runHour_9 : decode cX0_runHour 9 = .ok (.iconst 0, 1) := by decide +kernel
theorem dX0_runHour_10 : decode cX0_runHour 10 = .ok (.istore_n 2, 1) := by decide +kernel
theorem dX0_runHour_11 : decode cX0_runHour 11 = .ok (.iload_n 2, 1) := by decide +kernel
theorem dX0_runHour_12 : decode cX0_runHour 12 = .ok (.aload_n 0, 1) := by decide +kernel
theorem dX0_runHour_13 : decode cX0_runHour 13 = .ok (.getfield 83, 3) := by decide +kernel
theorem dX0_runHour_16 : decode cX0_runHour 16 = .ok (.if_icmp .ge 19, 3) := by decide +kernel
theorem dX0_runHour_19 : decode cX0_runHour 19 = .ok (.aload_n 0, 1) := by decide +kernel
theorem dX0_runHour_20 : decode cX0_runHour 20 = .ok (.getfield 23, 3) := by decide +kernel
theorem dX0_runHour_23 : decode cX0_runHour 23 = .ok (.iload_n 2, 1) := by decide +kernel
theorem dX0_runHour_24 : decode cX0_runHour 24 = .ok (.aaload, 1) := by decide +kernel
theorem dX0_runHour_25 : decode cX0_runHour 25 = .ok (.iload_n 1, 1) := by decide +kernel
theorem dX0_runHour_26 : decode cX0_runHour 26 = .ok (.invokevirtual 86, 3) := by decide +kernel
theorem dX0_runHour_29 : decode cX0_runHour 29 = .ok (.iinc 2 1, 3) := by decide +kernel
theorem dX0_runHour_32 : decode cX0_runHour 32 = .ok (.goto (-21), 3) := by decide +kernel
theorem dX0_runHour_35 : decode cX0_runHour 35 = .ok (.iconst 0, 1) := by decide +kernel
theorem dX0_runHour_36 : decode cX0_runHour 36 = .ok (.istore_n 2, 1) := by decide +kernel
theorem dX0_runHour_37 : decode cX0_runHour 37 = .ok (.iload_n 2, 1) := by decide +kernel
theorem dX0_runHour_38 : decode cX0_runHour 38 = .ok (.aload_n 0, 1) := by decide +kernel
theorem dX0_runHour_39 : decode cX0_runHour 39 = .ok (.getfield 68, 3) := by decide +kernel
theorem dX0_runHour_42 : decode cX0_runHour 42 = .ok (.if_icmp .ge 25, 3) := by decide +kernel
theorem dX0_runHour_45 : decode cX0_runHour 45 = .ok (.aload_n 0, 1) := by decide +kernel
theorem dX0_runHour_46 : decode cX0_runHour 46 = .ok (.getfield 29, 3) := by decide +kernel
theorem dX0_runHour_49 : decode cX0_runHour 49 = .ok (.iload_n 2, 1) := by decide +kernel
theorem dX0_runHour_50 : decode cX0_runHour 50 = .ok (.aaload, 1) := by decide +kernel
theorem dX0_runHour_51 : decode cX0_runHour 51 = .ok (.iload_n 1, 1) := by decide +kernel
theorem dX0_runHour_52 : decode cX0_runHour 52 = .ok (.aload_n 0, 1) := by decide +kernel
theorem dX0_runHour_53 : decode cX0_runHour 53 = .ok (.getfield 13, 3) := by decide +kernel
theorem dX0_runHour_56 : decode cX0_runHour 56 = .ok (.iconst 0, 1) := by decide +kernel
theorem dX0_runHour_57 : decode cX0_runHour 57 = .ok (.iaload, 1) := by decide +kernel
theorem dX0_runHour_58 : decode cX0_runHour 58 = .ok (.invokevirtual 90, 3) := by decide +kernel
theorem dX0_runHour_61 : decode cX0_runHour 61 = .ok (.iinc 2 1, 3) := by decide +kernel
theorem dX0_runHour_64 : decode cX0_runHour 64 = .ok (.goto (-27), 3) := by decide +kernel
theorem dX0_runHour_67 : decode cX0_runHour 67 = .ok (.aload_n 0, 1) := by decide +kernel
theorem dX0_runHour_68 : decode cX0_runHour 68 = .ok (.iload_n 1, 1) := by decide +kernel
theorem dX0_runHour_69 : decode cX0_runHour 69 = .ok (.invokevirtual 94, 3) := by decide +kernel
theorem dX0_runHour_72 : decode cX0_runHour 72 = .ok (.aload_n 0, 1) := by decide +kernel
theorem dX0_runHour_73 : decode cX0_runHour 73 = .ok (.getfield 13, 3) := by decide +kernel
theorem dX0_runHour_76 : decode cX0_runHour 76 = .ok (.iconst 0, 1) := by decide +kernel
theorem dX0_runHour_77 : decode cX0_runHour 77 = .ok (.aload_n 0, 1) := by decide +kernel
theorem dX0_runHour_78 : decode cX0_runHour 78 = .ok (.getfield 13, 3) := by decide +kernel
theorem dX0_runHour_81 : decode cX0_runHour 81 = .ok (.iconst 0, 1) := by decide +kernel
theorem dX0_runHour_82 : decode cX0_runHour 82 = .ok (.iaload, 1) := by decide +kernel
theorem dX0_runHour_83 : decode cX0_runHour 83 = .ok (.aload_n 0, 1) := by decide +kernel
theorem dX0_runHour_84 : decode cX0_runHour 84 = .ok (.getfield 41, 3) := by decide +kernel
theorem dX0_runHour_87 : decode cX0_runHour 87 = .ok (.iload_n 1, 1) := by decide +kernel
theorem dX0_runHour_88 : decode cX0_runHour 88 = .ok (.invokestatic 97, 3) := by decide +kernel
theorem dX0_runHour_91 : decode cX0_runHour 91 = .ok (.iastore, 1) := by decide +kernel
theorem dX0_runHour_92 : decode cX0_runHour 92 = .ok (.aload_n 0, 1) := by decide +kernel
theorem dX0_runHour_93 : decode cX0_runHour 93 = .ok (.dup, 1) := by decide +kernel
theorem dX0_runHour_94 : decode cX0_runHour 94 = .ok (.getfield 41, 3) := by decide +kernel
theorem dX0_runHour_97 : decode cX0_runHour 97 = .ok (.iconst 1, 1) := by decide +kernel
theorem dX0_runHour_98 : decode cX0_runHour 98 = .ok (.iadd, 1) := by decide +kernel
theorem dX0_runHour_99 : decode cX0_runHour 99 = .ok (.putfield 41, 3) := by decide +kernel
theorem dX0_runHour_102 : decode cX0_runHour 102 = .ok (.iconst 0, 1) := by decide +kernel
theorem dX0_runHour_103 : decode cX0_runHour 103 = .ok (.istore_n 2, 1) := by decide +kernel
theorem dX0_runHour_104 : decode cX0_runHour 104 = .ok (.iload_n 2, 1) := by decide +kernel
theorem dX0_runHour_105 : decode cX0_runHour 105 = .ok (.aload_n 0, 1) := by decide +kernel
theorem dX0_runHour_106 : decode cX0_runHour 106 = .ok (.getfield 68, 3) := by decide +kernel
theorem dX0_runHour_109 : decode cX0_runHour 109 = .ok (.if_icmp .ge 18, 3) := by decide +kernel
theorem dX0_runHour_112 : decode cX0_runHour 112 = .ok (.aload_n 0, 1) := by decide +kernel
theorem dX0_runHour_113 : decode cX0_runHour 113 = .ok (.getfield 29, 3) := by decide +kernel
theorem dX0_runHour_116 : decode cX0_runHour 116 = .ok (.iload_n 2, 1) := by decide +kernel
theorem dX0_runHour_117 : decode cX0_runHour 117 = .ok (.aaload, 1) := by decide +kernel
theorem dX0_runHour_118 : decode cX0_runHour 118 = .ok (.invokevirtual 101, 3) := by decide +kernel
theorem dX0_runHour_121 : decode cX0_runHour 121 = .ok (.iinc 2 1, 3) := by decide +kernel
theorem dX0_runHour_124 : decode cX0_runHour 124 = .ok (.goto (-20), 3) := by decide +kernel
theorem dX0_runHour_127 : decode cX0_runHour 127 = .ok (.return_, 1) := by decide +kernel
set_option maxRecDepth 20000 in
theorem ggX0_servePeople_X0_serveOne : GoodIn wsX0_servePeople wsX0_serveOne := goodIn_r _ [6, 7, 8, 9, 10, 11, 12, 13, 5, 14, 15, 16, 17, 18, 19, 20, 21, 22, 23, 24, 25, 26, 27, 28, 29, 30, 31, 32, 33, 34, 35] (by decide +kernel) (by decide +kernel)
set_option maxRecDepth 20000 in
theorem gX0_servePeople_X0_serveOne : GoodIn wsX0_servePeople (wsV RX0 104 RX0 yX0_serveOne wsX0_serveOne) := goodIn_app (goodIn_of _ (by decide +kernel)) ggX0_servePeople_X0_serveOne
theorem dX0_servePeople_0 : decode cX0_servePeople 0 = .ok (.aload_n 0, 1) := by decide +kernel
theorem dX0_servePeople_1 : decode cX0_servePeople 1 = .ok (.getfield 41, 3) := by decide +kernel
theorem dX0_servePeople_4 : decode cX0_servePeople 4 = .ok (.bipush 24, 2) := by decide +kernel
theorem dX0_servePeople_6 : decode cX0_servePeople 6 = .ok (.irem, 1) := by decide +kernel
theorem dX0_servePeople_7 : decode cX0_servePeople 7 = .ok (.istore_n 2, 1) := by decide +kernel
theorem dX0_servePeople_8 : decode cX0_servePeople 8 = .ok (.iload_n 2, 1) := by decide +kernel
theorem dX0_servePeople_9 : decode cX0_servePeople 9 = .ok (.bipush 10, 2) := by decide +kernel
theorem dX0_servePeople_11 : decode cX0_servePeople 11 = .ok (.if_icmp .lt 9, 3) := by decide +kernel
theorem dX0_servePeople_14 : decode cX0_servePeople 14 = .ok (.iload_n 2, 1) := by decide +kernel
theorem dX0_servePeople_15 : decode cX0_servePeople 15 = .ok (.bipush 18, 2) := by decide +kernel
theorem dX0_servePeople_17 : decode cX0_servePeople 17 = .ok (.if_icmp .le 4, 3) := by decide +kernel
theorem dX0_servePeople_20 : decode cX0_servePeople 20 = .ok (.return_, 1) := by decide +kernel
theorem dX0_servePeople_21 : decode cX0_servePeople 21 = .ok (.iload_n 1, 1) := by decide +kernel
theorem dX0_servePeople_22 : decode cX0_servePeople 22 = .ok (.iconst 4, 1) := by decide +kernel
theorem dX0_servePeople_23 : decode cX0_servePeople 23 = .ok (.idiv, 1) := by decide +kernel
theorem dX0_servePeople_24 : decode cX0_servePeople 24 = .ok (.istore_n 3, 1) := by decide +kernel
theorem dX0_servePeople_25 : decode cX0_servePeople 25 = .ok (.iconst 0, 1) := by decide +kernel
theorem dX0_servePeople_26 : decode cX0_servePeople 26 = .ok (.istore 4, 2) := by decide +kernel
theorem dX0_servePeople_28 : decode cX0_servePeople 28 = .ok (.iload 4, 2) := by decide +kernel
theorem dX0_servePeople_30 : decode cX0_servePeople 30 = .ok (.iload_n 3, 1) := by decide +kernel
theorem dX0_servePeople_31 : decode cX0_servePeople 31 = .ok (.if_icmp .ge 13, 3) := by decide +kernel
theorem dX0_servePeople_34 : decode cX0_servePeople 34 = .ok (.aload_n 0, 1) := by decide +kernel
theorem dX0_servePeople_35 : decode cX0_servePeople 35 = .ok (.invokevirtual 104, 3) := by decide +kernel
theorem dX0_servePeople_38 : decode cX0_servePeople 38 = .ok (.iinc 4 1, 3) := by decide +kernel
theorem dX0_servePeople_41 : decode cX0_servePeople 41 = .ok (.goto (-13), 3) := by decide +kernel
theorem dX0_servePeople_44 : decode cX0_servePeople 44 = .ok (.return_, 1) := by decide +kernel
set_option maxRecDepth 20000 in
theorem ggX0_serveOne_X0_sellingTub : GoodIn wsX0_serveOne wsX0_sellingTub := goodIn_r _ [9, 10, 4, 19, 20, 21, 22, 23, 24, 25, 26, 27, 28, 29, 30] (by decide +kernel) (by decide +kernel)
set_option maxRecDepth 20000 in
theorem gX0_serveOne_X0_sellingTub : GoodIn wsX0_serveOne (wsV RX0 107 RX0 yX0_sellingTub wsX0_sellingTub) := goodIn_app (goodIn_of _ (by decide +kernel)) ggX0_serveOne_X0_sellingTub
set_option maxRecDepth 20000 in
theorem ggX0_serveOne_X2_sellScoop : GoodIn wsX0_serveOne wsX2_sellScoop := goodIn_r _ [15, 16, 17, 18, 28, 29, 30] (by decide +kernel) (by decide +kernel)
set_option maxRecDepth 20000 in
theorem gX0_serveOne_X2_sellScoop : GoodIn wsX0_serveOne (wsV RX0 110 RX2 yX2_sellScoop wsX2_sellScoop) := goodIn_app (goodIn_of _ (by decide +kernel)) ggX0_serveOne_X2_sellScoop
theorem dX0_serveOne_0 : decode cX0_serveOne 0 = .ok (.aload_n 0, 1) := by decide +kernel
theorem dX0_serveOne_1 : decode cX0_serveOne 1 = .ok (.invokevirtual 107, 3) := by decide +kernel
theorem dX0_serveOne_4 : decode cX0_serveOne 4 = .ok (.istore_n 1, 1) := by decide +kernel
theorem dX0_serveOne_5 : decode cX0_serveOne 5 = .ok (.iload_n 1, 1) := by decide +kernel
theorem dX0_serveOne_6 : decode cX0_serveOne 6 = .ok (.ifCond .lt 12, 3) := by decide +kernel
theorem dX0_serveOne_9 : decode cX0_serveOne 9 = .ok (.aload_n 0, 1) := by decide +kernel
theorem dX0_serveOne_10 : decode cX0_serveOne 10 = .ok (.getfield 13, 3) := by decide +kernel
theorem dX0_serveOne_13 : decode cX0_serveOne 13 = .ok (.iconst 3, 1) := by decide +kernel
theorem dX0_serveOne_14 : decode cX0_serveOne 14 = .ok (.iaload, 1) := by decide +kernel
theorem dX0_serveOne_15 : decode cX0_serveOne 15 = .ok (.ifCond .ne 14, 3) := by decide +kernel
theorem dX0_serveOne_18 : decode cX0_serveOne 18 = .ok (.aload_n 0, 1) := by decide +kernel
theorem dX0_serveOne_19 : decode cX0_serveOne 19 = .ok (.dup, 1) := by decide +kernel
theorem dX0_serveOne_20 : decode cX0_serveOne 20 = .ok (.getfield 59, 3) := by decide +kernel
theorem dX0_serveOne_23 : decode cX0_serveOne 23 = .ok (.iconst 1, 1) := by decide +kernel
theorem dX0_serveOne_24 : decode cX0_serveOne 24 = .ok (.iadd, 1) := by decide +kernel
theorem dX0_serveOne_25 : decode cX0_serveOne 25 = .ok (.putfield 59, 3) := by decide +kernel
theorem dX0_serveOne_28 : decode cX0_serveOne 28 = .ok (.return_, 1) := by decide +kernel
theorem dX0_serveOne_29 : decode cX0_serveOne 29 = .ok (.aload_n 0, 1) := by decide +kernel
theorem dX0_serveOne_30 : decode cX0_serveOne 30 = .ok (.getfield 13, 3) := by decide +kernel
theorem dX0_serveOne_33 : decode cX0_serveOne 33 = .ok (.iconst 3, 1) := by decide +kernel
theorem dX0_serveOne_34 : decode cX0_serveOne 34 = .ok (.dup2, 1) := by decide +kernel
theorem dX0_serveOne_35 : decode cX0_serveOne 35 = .ok (.iaload, 1) := by decide +kernel
theorem dX0_serveOne_36 : decode cX0_serveOne 36 = .ok (.iconst 1, 1) := by decide +kernel
theorem dX0_serveOne_37 : decode cX0_serveOne 37 = .ok (.isub, 1) := by decide +kernel
theorem dX0_serveOne_38 : decode cX0_serveOne 38 = .ok (.iastore, 1) := by decide +kernel
theorem dX0_serveOne_39 : decode cX0_serveOne 39 = .ok (.aload_n 0, 1) := by decide +kernel
theorem dX0_serveOne_40 : decode cX0_serveOne 40 = .ok (.dup, 1) := by decide +kernel
theorem dX0_serveOne_41 : decode cX0_serveOne 41 = .ok (.getfield 49, 3) := by decide +kernel
theorem dX0_serveOne_44 : decode cX0_serveOne 44 = .ok (.aload_n 0, 1) := by decide +kernel
theorem dX0_serveOne_45 : decode cX0_serveOne 45 = .ok (.getfield 29, 3) := by decide +kernel
theorem dX0_serveOne_48 : decode cX0_serveOne 48 = .ok (.iload_n 1, 1) := by decide +kernel
theorem dX0_serveOne_49 : decode cX0_serveOne 49 = .ok (.aaload, 1) := by decide +kernel
theorem dX0_serveOne_50 : decode cX0_serveOne 50 = .ok (.invokevirtual 110, 3) := by decide +kernel
theorem dX0_serveOne_53 : decode cX0_serveOne 53 = .ok (.iadd, 1) := by decide +kernel
theorem dX0_serveOne_54 : decode cX0_serveOne 54 = .ok (.putfield 49, 3) := by decide +kernel
theorem dX0_serveOne_57 : decode cX0_serveOne 57 = .ok (.return_, 1) := by decide +kernel
set_option maxRecDepth 20000 in
theorem ggX0_hoursUntilFirm_X3_firmAfterHour : GoodIn wsX0_hoursUntilFirm wsX3_firmAfterHour := goodIn_r _ [4, 5, 6, 7, 8] (by decide +kernel) (by decide +kernel)
set_option maxRecDepth 20000 in
theorem gX0_hoursUntilFirm_X3_firmAfterHour_n122 : GoodIn wsX0_hoursUntilFirm (wsX3_firmAfterHour) := ggX0_hoursUntilFirm_X3_firmAfterHour
set_option maxRecDepth 20000 in
theorem ggX0_hoursUntilFirm_X0_heatAt : GoodIn wsX0_hoursUntilFirm wsX0_heatAt := goodIn_r _ [13, 14, 15, 16, 17, 18, 27, 28, 29, 30, 31, 32, 33, 34, 35] (by decide +kernel) (by decide +kernel)
set_option maxRecDepth 20000 in
theorem gX0_hoursUntilFirm_X0_heatAt : GoodIn wsX0_hoursUntilFirm (wsV RX0 45 RX0 yX0_heatAt wsX0_heatAt) := goodIn_app (goodIn_of _ (by decide +kernel)) ggX0_hoursUntilFirm_X0_heatAt
set_option maxRecDepth 20000 in
theorem ggX0_hoursUntilFirm_X3_coldAfterHour : GoodIn wsX0_hoursUntilFirm wsX3_coldAfterHour := goodIn_r _ [20, 21, 22, 7, 23] (by decide +kernel) (by decide +kernel)
set_option maxRecDepth 20000 in
theorem gX0_hoursUntilFirm_X3_coldAfterHour_n125 : GoodIn wsX0_hoursUntilFirm (wsX3_coldAfterHour) := ggX0_hoursUntilFirm_X3_coldAfterHour
theorem dX0_hoursUntilFirm_0 : decode cX0_hoursUntilFirm 0 = .ok (.aload_n 1, 1) := by decide +kernel
theorem dX0_hoursUntilFirm_1 : decode cX0_hoursUntilFirm 1 = .ok (.getfield 113, 3) := by decide +kernel
theorem dX0_hoursUntilFirm_4 : decode cX0_hoursUntilFirm 4 = .ok (.ifCond .ne 5, 3) := by decide +kernel
theorem dX0_hoursUntilFirm_7 : decode cX0_hoursUntilFirm 7 = .ok (.iconst (-1), 1) := by decide +kernel
theorem dX0_hoursUntilFirm_8 : decode cX0_hoursUntilFirm 8 = .ok (.ireturn, 1) := by decide +kernel
theorem dX0_hoursUntilFirm_9 : decode cX0_hoursUntilFirm 9 = .ok (.aload_n 1, 1) := by decide +kernel
theorem dX0_hoursUntilFirm_10 : decode cX0_hoursUntilFirm 10 = .ok (.getfield 116, 3) := by decide +kernel
theorem dX0_hoursUntilFirm_13 : decode cX0_hoursUntilFirm 13 = .ok (.istore_n 2, 1) := by decide +kernel
theorem dX0_hoursUntilFirm_14 : decode cX0_hoursUntilFirm 14 = .ok (.aload_n 1, 1) := by decide +kernel
theorem dX0_hoursUntilFirm_15 : decode cX0_hoursUntilFirm 15 = .ok (.getfield 119, 3) := by decide +kernel
theorem dX0_hoursUntilFirm_18 : decode cX0_hoursUntilFirm 18 = .ok (.istore_n 3, 1) := by decide +kernel
theorem dX0_hoursUntilFirm_19 : decode cX0_hoursUntilFirm 19 = .ok (.iconst 0, 1) := by decide +kernel
theorem dX0_hoursUntilFirm_20 : decode cX0_hoursUntilFirm 20 = .ok (.istore 4, 2) := by decide +kernel
theorem dX0_hoursUntilFirm_22 : decode cX0_hoursUntilFirm 22 = .ok (.iload 4, 2) := by decide +kernel
theorem dX0_hoursUntilFirm_24 : decode cX0_hoursUntilFirm 24 = .ok (.bipush 100, 2) := by decide +kernel
theorem dX0_hoursUntilFirm_26 : decode cX0_hoursUntilFirm 26 = .ok (.if_icmp .gt 40, 3) := by decide +kernel
theorem dX0_hoursUntilFirm_29 : decode cX0_hoursUntilFirm 29 = .ok (.iload_n 2, 1) := by decide +kernel
theorem dX0_hoursUntilFirm_30 : decode cX0_hoursUntilFirm 30 = .ok (.bipush 50, 2) := by decide +kernel
theorem dX0_hoursUntilFirm_32 : decode cX0_hoursUntilFirm 32 = .ok (.if_icmp .lt 6, 3) := by decide +kernel
theorem dX0_hoursUntilFirm_35 : decode cX0_hoursUntilFirm 35 = .ok (.iload 4, 2) := by decide +kernel
theorem dX0_hoursUntilFirm_37 : decode cX0_hoursUntilFirm 37 = .ok (.ireturn, 1) := by decide +kernel
theorem dX0_hoursUntilFirm_38 : decode cX0_hoursUntilFirm 38 = .ok (.iload_n 2, 1) := by decide +kernel
theorem dX0_hoursUntilFirm_39 : decode cX0_hoursUntilFirm 39 = .ok (.iload_n 3, 1) := by decide +kernel
theorem dX0_hoursUntilFirm_40 : decode cX0_hoursUntilFirm 40 = .ok (.invokestatic 122, 3) := by decide +kernel
theorem dX0_hoursUntilFirm_43 : decode cX0_hoursUntilFirm 43 = .ok (.istore_n 2, 1) := by decide +kernel
theorem dX0_hoursUntilFirm_44 : decode cX0_hoursUntilFirm 44 = .ok (.iload_n 3, 1) := by decide +kernel
theorem dX0_hoursUntilFirm_45 : decode cX0_hoursUntilFirm 45 = .ok (.aload_n 0, 1) := by decide +kernel
theorem dX0_hoursUntilFirm_46 : decode cX0_hoursUntilFirm 46 = .ok (.aload_n 0, 1) := by decide +kernel
theorem dX0_hoursUntilFirm_47 : decode cX0_hoursUntilFirm 47 = .ok (.getfield 41, 3) := by decide +kernel
theorem dX0_hoursUntilFirm_50 : decode cX0_hoursUntilFirm 50 = .ok (.iload 4, 2) := by decide +kernel
theorem dX0_hoursUntilFirm_52 : decode cX0_hoursUntilFirm 52 = .ok (.iadd, 1) := by decide +kernel
theorem dX0_hoursUntilFirm_53 : decode cX0_hoursUntilFirm 53 = .ok (.invokevirtual 45, 3) := by decide +kernel
theorem dX0_hoursUntilFirm_56 : decode cX0_hoursUntilFirm 56 = .ok (.invokestatic 125, 3) := by decide +kernel
theorem dX0_hoursUntilFirm_59 : decode cX0_hoursUntilFirm 59 = .ok (.istore_n 3, 1) := by decide +kernel
theorem dX0_hoursUntilFirm_60 : decode cX0_hoursUntilFirm 60 = .ok (.iinc 4 1, 3) := by decide +kernel
theorem dX0_hoursUntilFirm_63 : decode cX0_hoursUntilFirm 63 = .ok (.goto (-41), 3) := by decide +kernel
theorem dX0_hoursUntilFirm_66 : decode cX0_hoursUntilFirm 66 = .ok (.iconst (-1), 1) := by decide +kernel
theorem dX0_hoursUntilFirm_67 : decode cX0_hoursUntilFirm 67 = .ok (.ireturn, 1) := by decide +kernel
set_option maxRecDepth 20000 in
theorem ggX0_hoursUntilNoIce_X0_heatAt : GoodIn wsX0_hoursUntilNoIce wsX0_heatAt := goodIn_r _ [7, 8, 9, 10, 11, 12, 20, 21, 22, 23, 24, 25, 26, 27, 28] (by decide +kernel) (by decide +kernel)
set_option maxRecDepth 20000 in
theorem gX0_hoursUntilNoIce_X0_heatAt : GoodIn wsX0_hoursUntilNoIce (wsV RX0 45 RX0 yX0_heatAt wsX0_heatAt) := goodIn_app (goodIn_of _ (by decide +kernel)) ggX0_hoursUntilNoIce_X0_heatAt
set_option maxRecDepth 20000 in
theorem ggX0_hoursUntilNoIce_X3_iceAfterHour : GoodIn wsX0_hoursUntilNoIce wsX3_iceAfterHour := goodIn_r _ [15, 16, 17, 18, 19] (by decide +kernel) (by decide +kernel)
set_option maxRecDepth 20000 in
theorem gX0_hoursUntilNoIce_X3_iceAfterHour_n97 : GoodIn wsX0_hoursUntilNoIce (wsX3_iceAfterHour) := ggX0_hoursUntilNoIce_X3_iceAfterHour
theorem dX0_hoursUntilNoIce_0 : decode cX0_hoursUntilNoIce 0 = .ok (.aload_n 0, 1) := by decide +kernel
theorem dX0_hoursUntilNoIce_1 : decode cX0_hoursUntilNoIce 1 = .ok (.getfield 13, 3) := by decide +kernel
theorem dX0_hoursUntilNoIce_4 : decode cX0_hoursUntilNoIce 4 = .ok (.iconst 0, 1) := by decide +kernel
theorem dX0_hoursUntilNoIce_5 : decode cX0_hoursUntilNoIce 5 = .ok (.iaload, 1) := by decide +kernel
theorem dX0_hoursUntilNoIce_6 : decode cX0_hoursUntilNoIce 6 = .ok (.istore_n 1, 1) := by decide +kernel
theorem dX0_hoursUntilNoIce_7 : decode cX0_hoursUntilNoIce 7 = .ok (.iconst 0, 1) := by decide +kernel
theorem dX0_hoursUntilNoIce_8 : decode cX0_hoursUntilNoIce 8 = .ok (.istore_n 2, 1) := by decide +kernel
theorem dX0_hoursUntilNoIce_9 : decode cX0_hoursUntilNoIce 9 = .ok (.iload_n 2, 1) := by decide +kernel
theorem dX0_hoursUntilNoIce_10 : decode cX0_hoursUntilNoIce 10 = .ok (.sipush 999, 3) := by decide +kernel
theorem dX0_hoursUntilNoIce_13 : decode cX0_hoursUntilNoIce 13 = .ok (.if_icmp .gt 36, 3) := by decide +kernel
theorem dX0_hoursUntilNoIce_16 : decode cX0_hoursUntilNoIce 16 = .ok (.iload_n 1, 1) := by decide +kernel
theorem dX0_hoursUntilNoIce_17 : decode cX0_hoursUntilNoIce 17 = .ok (.ifCond .ne 5, 3) := by decide +kernel
theorem dX0_hoursUntilNoIce_20 : decode cX0_hoursUntilNoIce 20 = .ok (.iload_n 2, 1) := by decide +kernel
theorem dX0_hoursUntilNoIce_21 : decode cX0_hoursUntilNoIce 21 = .ok (.ireturn, 1) := by decide +kernel
theorem dX0_hoursUntilNoIce_22 : decode cX0_hoursUntilNoIce 22 = .ok (.iload_n 1, 1) := by decide +kernel
theorem dX0_hoursUntilNoIce_23 : decode cX0_hoursUntilNoIce 23 = .ok (.aload_n 0, 1) := by decide +kernel
theorem dX0_hoursUntilNoIce_24 : decode cX0_hoursUntilNoIce 24 = .ok (.getfield 41, 3) := by decide +kernel
theorem dX0_hoursUntilNoIce_27 : decode cX0_hoursUntilNoIce 27 = .ok (.iload_n 2, 1) := by decide +kernel
theorem dX0_hoursUntilNoIce_28 : decode cX0_hoursUntilNoIce 28 = .ok (.iadd, 1) := by decide +kernel
theorem dX0_hoursUntilNoIce_29 : decode cX0_hoursUntilNoIce 29 = .ok (.aload_n 0, 1) := by decide +kernel
theorem dX0_hoursUntilNoIce_30 : decode cX0_hoursUntilNoIce 30 = .ok (.aload_n 0, 1) := by decide +kernel
theorem dX0_hoursUntilNoIce_31 : decode cX0_hoursUntilNoIce 31 = .ok (.getfield 41, 3) := by decide +kernel
theorem dX0_hoursUntilNoIce_34 : decode cX0_hoursUntilNoIce 34 = .ok (.iload_n 2, 1) := by decide +kernel
theorem dX0_hoursUntilNoIce_35 : decode cX0_hoursUntilNoIce 35 = .ok (.iadd, 1) := by decide +kernel
theorem dX0_hoursUntilNoIce_36 : decode cX0_hoursUntilNoIce 36 = .ok (.invokevirtual 45, 3) := by decide +kernel
theorem dX0_hoursUntilNoIce_39 : decode cX0_hoursUntilNoIce 39 = .ok (.invokestatic 97, 3) := by decide +kernel
theorem dX0_hoursUntilNoIce_42 : decode cX0_hoursUntilNoIce 42 = .ok (.istore_n 1, 1) := by decide +kernel
theorem dX0_hoursUntilNoIce_43 : decode cX0_hoursUntilNoIce 43 = .ok (.iinc 2 1, 3) := by decide +kernel
theorem dX0_hoursUntilNoIce_46 : decode cX0_hoursUntilNoIce 46 = .ok (.goto (-37), 3) := by decide +kernel
theorem dX0_hoursUntilNoIce_49 : decode cX0_hoursUntilNoIce 49 = .ok (.iconst (-1), 1) := by decide +kernel
theorem dX0_hoursUntilNoIce_50 : decode cX0_hoursUntilNoIce 50 = .ok (.ireturn, 1) := by decide +kernel
set_option maxRecDepth 20000 in
theorem ggX0_copyFrom_X1_copyFrom : GoodIn wsX0_copyFrom wsX1_copyFrom := goodIn_r _ [18, 19, 20, 21, 39, 40, 41] (by decide +kernel) (by decide +kernel)
set_option maxRecDepth 20000 in
theorem gX0_copyFrom_X1_copyFrom : GoodIn wsX0_copyFrom (wsV RX0 134 RX1 yX1_copyFrom wsX1_copyFrom) := goodIn_app (goodIn_of _ (by decide +kernel)) ggX0_copyFrom_X1_copyFrom
set_option maxRecDepth 20000 in
theorem ggX0_copyFrom_X2_copyFrom : GoodIn wsX0_copyFrom wsX2_copyFrom := goodIn_r _ [26, 27, 28, 29, 42, 43, 44] (by decide +kernel) (by decide +kernel)
set_option maxRecDepth 20000 in
theorem gX0_copyFrom_X2_copyFrom : GoodIn wsX0_copyFrom (wsV RX0 138 RX2 yX2_copyFrom wsX2_copyFrom) := goodIn_app (goodIn_of _ (by decide +kernel)) ggX0_copyFrom_X2_copyFrom
theorem dX0_copyFrom_0 : decode cX0_copyFrom 0 = .ok (.aload_n 1, 1) := by decide +kernel
theorem dX0_copyFrom_1 : decode cX0_copyFrom 1 = .ok (.getfield 13, 3) := by decide +kernel
theorem dX0_copyFrom_4 : decode cX0_copyFrom 4 = .ok (.iconst 0, 1) := by decide +kernel
theorem dX0_copyFrom_5 : decode cX0_copyFrom 5 = .ok (.aload_n 0, 1) := by decide +kernel
theorem dX0_copyFrom_6 : decode cX0_copyFrom 6 = .ok (.getfield 13, 3) := by decide +kernel
theorem dX0_copyFrom_9 : decode cX0_copyFrom 9 = .ok (.iconst 0, 1) := by decide +kernel
theorem dX0_copyFrom_10 : decode cX0_copyFrom 10 = .ok (.aload_n 0, 1) := by decide +kernel
theorem dX0_copyFrom_11 : decode cX0_copyFrom 11 = .ok (.getfield 13, 3) := by decide +kernel
theorem dX0_copyFrom_14 : decode cX0_copyFrom 14 = .ok (.arraylength, 1) := by decide +kernel
theorem dX0_copyFrom_15 : decode cX0_copyFrom 15 = .ok (.invokestatic 128, 3) := by decide +kernel
theorem dX0_copyFrom_18 : decode cX0_copyFrom 18 = .ok (.aload_n 1, 1) := by decide +kernel
theorem dX0_copyFrom_19 : decode cX0_copyFrom 19 = .ok (.getfield 18, 3) := by decide +kernel
theorem dX0_copyFrom_22 : decode cX0_copyFrom 22 = .ok (.iconst 0, 1) := by decide +kernel
theorem dX0_copyFrom_23 : decode cX0_copyFrom 23 = .ok (.aload_n 0, 1) := by decide +kernel
theorem dX0_copyFrom_24 : decode cX0_copyFrom 24 = .ok (.getfield 18, 3) := by decide +kernel
theorem dX0_copyFrom_27 : decode cX0_copyFrom 27 = .ok (.iconst 0, 1) := by decide +kernel
theorem dX0_copyFrom_28 : decode cX0_copyFrom 28 = .ok (.aload_n 0, 1) := by decide +kernel
theorem dX0_copyFrom_29 : decode cX0_copyFrom 29 = .ok (.getfield 18, 3) := by decide +kernel
theorem dX0_copyFrom_32 : decode cX0_copyFrom 32 = .ok (.arraylength, 1) := by decide +kernel
theorem dX0_copyFrom_33 : decode cX0_copyFrom 33 = .ok (.invokestatic 128, 3) := by decide +kernel
theorem dX0_copyFrom_36 : decode cX0_copyFrom 36 = .ok (.iconst 0, 1) := by decide +kernel
theorem dX0_copyFrom_37 : decode cX0_copyFrom 37 = .ok (.istore_n 2, 1) := by decide +kernel
theorem dX0_copyFrom_38 : decode cX0_copyFrom 38 = .ok (.iload_n 2, 1) := by decide +kernel
theorem dX0_copyFrom_39 : decode cX0_copyFrom 39 = .ok (.iconst 4, 1) := by decide +kernel
theorem dX0_copyFrom_40 : decode cX0_copyFrom 40 = .ok (.if_icmp .ge 24, 3) := by decide +kernel
theorem dX0_copyFrom_43 : decode cX0_copyFrom 43 = .ok (.aload_n 0, 1) := by decide +kernel
theorem dX0_copyFrom_44 : decode cX0_copyFrom 44 = .ok (.getfield 23, 3) := by decide +kernel
theorem dX0_copyFrom_47 : decode cX0_copyFrom 47 = .ok (.iload_n 2, 1) := by decide +kernel
theorem dX0_copyFrom_48 : decode cX0_copyFrom 48 = .ok (.aaload, 1) := by decide +kernel
theorem dX0_copyFrom_49 : decode cX0_copyFrom 49 = .ok (.aload_n 1, 1) := by decide +kernel
theorem dX0_copyFrom_50 : decode cX0_copyFrom 50 = .ok (.getfield 23, 3) := by decide +kernel
theorem dX0_copyFrom_53 : decode cX0_copyFrom 53 = .ok (.iload_n 2, 1) := by decide +kernel
theorem dX0_copyFrom_54 : decode cX0_copyFrom 54 = .ok (.aaload, 1) := by decide +kernel
theorem dX0_copyFrom_55 : decode cX0_copyFrom 55 = .ok (.invokevirtual 134, 3) := by decide +kernel
theorem dX0_copyFrom_58 : decode cX0_copyFrom 58 = .ok (.iinc 2 1, 3) := by decide +kernel
theorem dX0_copyFrom_61 : decode cX0_copyFrom 61 = .ok (.goto (-23), 3) := by decide +kernel
theorem dX0_copyFrom_64 : decode cX0_copyFrom 64 = .ok (.iconst 0, 1) := by decide +kernel
theorem dX0_copyFrom_65 : decode cX0_copyFrom 65 = .ok (.istore_n 2, 1) := by decide +kernel
theorem dX0_copyFrom_66 : decode cX0_copyFrom 66 = .ok (.iload_n 2, 1) := by decide +kernel
theorem dX0_copyFrom_67 : decode cX0_copyFrom 67 = .ok (.bipush 6, 2) := by decide +kernel
theorem dX0_copyFrom_69 : decode cX0_copyFrom 69 = .ok (.if_icmp .ge 24, 3) := by decide +kernel
theorem dX0_copyFrom_72 : decode cX0_copyFrom 72 = .ok (.aload_n 0, 1) := by decide +kernel
theorem dX0_copyFrom_73 : decode cX0_copyFrom 73 = .ok (.getfield 29, 3) := by decide +kernel
theorem dX0_copyFrom_76 : decode cX0_copyFrom 76 = .ok (.iload_n 2, 1) := by decide +kernel
theorem dX0_copyFrom_77 : decode cX0_copyFrom 77 = .ok (.aaload, 1) := by decide +kernel
theorem dX0_copyFrom_78 : decode cX0_copyFrom 78 = .ok (.aload_n 1, 1) := by decide +kernel
theorem dX0_copyFrom_79 : decode cX0_copyFrom 79 = .ok (.getfield 29, 3) := by decide +kernel
theorem dX0_copyFrom_82 : decode cX0_copyFrom 82 = .ok (.iload_n 2, 1) := by decide +kernel
theorem dX0_copyFrom_83 : decode cX0_copyFrom 83 = .ok (.aaload, 1) := by decide +kernel
theorem dX0_copyFrom_84 : decode cX0_copyFrom 84 = .ok (.invokevirtual 138, 3) := by decide +kernel
theorem dX0_copyFrom_87 : decode cX0_copyFrom 87 = .ok (.iinc 2 1, 3) := by decide +kernel
theorem dX0_copyFrom_90 : decode cX0_copyFrom 90 = .ok (.goto (-24), 3) := by decide +kernel
theorem dX0_copyFrom_93 : decode cX0_copyFrom 93 = .ok (.aload_n 0, 1) := by decide +kernel
theorem dX0_copyFrom_94 : decode cX0_copyFrom 94 = .ok (.aload_n 1, 1) := by decide +kernel
theorem dX0_copyFrom_95 : decode cX0_copyFrom 95 = .ok (.getfield 83, 3) := by decide +kernel
theorem dX0_copyFrom_98 : decode cX0_copyFrom 98 = .ok (.putfield 83, 3) := by decide +kernel
theorem dX0_copyFrom_101 : decode cX0_copyFrom 101 = .ok (.aload_n 0, 1) := by decide +kernel
theorem dX0_copyFrom_102 : decode cX0_copyFrom 102 = .ok (.aload_n 1, 1) := by decide +kernel
theorem dX0_copyFrom_103 : decode cX0_copyFrom 103 = .ok (.getfield 68, 3) := by decide +kernel
theorem dX0_copyFrom_106 : decode cX0_copyFrom 106 = .ok (.putfield 68, 3) := by decide +kernel
theorem dX0_copyFrom_109 : decode cX0_copyFrom 109 = .ok (.aload_n 0, 1) := by decide +kernel
theorem dX0_copyFrom_110 : decode cX0_copyFrom 110 = .ok (.aload_n 1, 1) := by decide +kernel
theorem dX0_copyFrom_111 : decode cX0_copyFrom 111 = .ok (.getfield 41, 3) := by decide +kernel
theorem dX0_copyFrom_114 : decode cX0_copyFrom 114 = .ok (.putfield 41, 3) := by decide +kernel
theorem dX0_copyFrom_117 : decode cX0_copyFrom 117 = .ok (.aload_n 0, 1) := by decide +kernel
theorem dX0_copyFrom_118 : decode cX0_copyFrom 118 = .ok (.aload_n 1, 1) := by decide +kernel
theorem dX0_copyFrom_119 : decode cX0_copyFrom 119 = .ok (.getfield 49, 3) := by decide +kernel
theorem dX0_copyFrom_122 : decode cX0_copyFrom 122 = .ok (.putfield 49, 3) := by decide +kernel
theorem dX0_copyFrom_125 : decode cX0_copyFrom 125 = .ok (.aload_n 0, 1) := by decide +kernel
theorem dX0_copyFrom_126 : decode cX0_copyFrom 126 = .ok (.aload_n 1, 1) := by decide +kernel
theorem dX0_copyFrom_127 : decode cX0_copyFrom 127 = .ok (.getfield 59, 3) := by decide +kernel
theorem dX0_copyFrom_130 : decode cX0_copyFrom 130 = .ok (.putfield 59, 3) := by decide +kernel
theorem dX0_copyFrom_133 : decode cX0_copyFrom 133 = .ok (.return_, 1) := by decide +kernel
end
section
theorem dX1_init_0 : decode cX1_init 0 = .ok (.aload_n 0, 1) := by decide +kernel
theorem dX1_init_1 : decode cX1_init 1 = .ok (.invokespecial 1, 3) := by decide +kernel
theorem dX1_init_4 : decode cX1_init 4 = .ok (.return_, 1) := by decide +kernel
theorem dX1_number_0 : decode cX1_number 0 = .ok (.iload_n 1, 1) := by decide +kernel
theorem dX1_number_1 : decode cX1_number 1 = .ok (.lookupswitch 37 #[(0, 27), (1, 32)], 27) := by decide +kernel
theorem dX1_number_28 : decode cX1_number 28 = .ok (.aload_n 0, 1) := by decide +kernel
theorem dX1_number_29 : decode cX1_number 29 = .ok (.getfield 7, 3) := by decide +kernel
theorem dX1_number_32 : decode cX1_number 32 = .ok (.ireturn, 1) := by decide +kernel
theorem dX1_number_33 : decode cX1_number 33 = .ok (.aload_n 0, 1) := by decide +kernel
theorem dX1_number_34 : decode cX1_number 34 = .ok (.getfield 13, 3) := by decide +kernel
theorem dX1_number_37 : decode cX1_number 37 = .ok (.ireturn, 1) := by decide +kernel
theorem dX1_number_38 : decode cX1_number 38 = .ok (.aload_n 0, 1) := by decide +kernel
theorem dX1_number_39 : decode cX1_number 39 = .ok (.getfield 16, 3) := by decide +kernel
theorem dX1_number_42 : decode cX1_number 42 = .ok (.ireturn, 1) := by decide +kernel
theorem dX1_add_0 : decode cX1_add 0 = .ok (.aload_n 0, 1) := by decide +kernel
theorem dX1_add_1 : decode cX1_add 1 = .ok (.getfield 13, 3) := by decide +kernel
theorem dX1_add_4 : decode cX1_add 4 = .ok (.istore_n 2, 1) := by decide +kernel
theorem dX1_add_5 : decode cX1_add 5 = .ok (.aload_n 0, 1) := by decide +kernel
theorem dX1_add_6 : decode cX1_add 6 = .ok (.iload_n 2, 1) := by decide +kernel
theorem dX1_add_7 : decode cX1_add 7 = .ok (.iload_n 1, 1) := by decide +kernel
theorem dX1_add_8 : decode cX1_add 8 = .ok (.iadd, 1) := by decide +kernel
theorem dX1_add_9 : decode cX1_add 9 = .ok (.putfield 13, 3) := by decide +kernel
theorem dX1_add_12 : decode cX1_add 12 = .ok (.aload_n 0, 1) := by decide +kernel
theorem dX1_add_13 : decode cX1_add 13 = .ok (.aload_n 0, 1) := by decide +kernel
theorem dX1_add_14 : decode cX1_add 14 = .ok (.getfield 13, 3) := by decide +kernel
theorem dX1_add_17 : decode cX1_add 17 = .ok (.ifCond .ne 7, 3) := by decide +kernel
theorem dX1_add_20 : decode cX1_add 20 = .ok (.iconst 0, 1) := by decide +kernel
theorem dX1_add_21 : decode cX1_add 21 = .ok (.goto 14, 3) := by decide +kernel
theorem dX1_add_24 : decode cX1_add 24 = .ok (.aload_n 0, 1) := by decide +kernel
theorem dX1_add_25 : decode cX1_add 25 = .ok (.getfield 16, 3) := by decide +kernel
theorem dX1_add_28 : decode cX1_add 28 = .ok (.iload_n 2, 1) := by decide +kernel
theorem dX1_add_29 : decode cX1_add 29 = .ok (.imul, 1) := by decide +kernel
theorem dX1_add_30 : decode cX1_add 30 = .ok (.aload_n 0, 1) := by decide +kernel
theorem dX1_add_31 : decode cX1_add 31 = .ok (.getfield 13, 3) := by decide +kernel
theorem dX1_add_34 : decode cX1_add 34 = .ok (.idiv, 1) := by decide +kernel
theorem dX1_add_35 : decode cX1_add 35 = .ok (.putfield 16, 3) := by decide +kernel
theorem dX1_add_38 : decode cX1_add 38 = .ok (.return_, 1) := by decide +kernel
set_option maxRecDepth 20000 in
theorem ggX1_turn_X3_firmAfterHour : GoodIn wsX1_turn wsX3_firmAfterHour := goodIn_r _ [6, 7, 8, 9, 10] (by decide +kernel) (by decide +kernel)
set_option maxRecDepth 20000 in
theorem gX1_turn_X3_firmAfterHour_n19 : GoodIn wsX1_turn (wsX3_firmAfterHour) := ggX1_turn_X3_firmAfterHour
set_option maxRecDepth 20000 in
theorem ggX1_turn_X3_coldAfterHour : GoodIn wsX1_turn wsX3_coldAfterHour := goodIn_r _ [12, 13, 14, 9, 15] (by decide +kernel) (by decide +kernel)
set_option maxRecDepth 20000 in
theorem gX1_turn_X3_coldAfterHour_n25 : GoodIn wsX1_turn (wsX3_coldAfterHour) := ggX1_turn_X3_coldAfterHour
theorem dX1_turn_0 : decode cX1_turn 0 = .ok (.aload_n 0, 1) := by decide +kernel
theorem dX1_turn_1 : decode cX1_turn 1 = .ok (.getfield 13, 3) := by decide +kernel
theorem dX1_turn_4 : decode cX1_turn 4 = .ok (.ifCond .le 18, 3) := by decide +kernel
theorem dX1_turn_7 : decode cX1_turn 7 = .ok (.aload_n 0, 1) := by decide +kernel
theorem dX1_turn_8 : decode cX1_turn 8 = .ok (.aload_n 0, 1) := by decide +kernel
theorem dX1_turn_9 : decode cX1_turn 9 = .ok (.getfield 16, 3) := by decide +kernel
theorem dX1_turn_12 : decode cX1_turn 12 = .ok (.aload_n 0, 1) := by decide +kernel
theorem dX1_turn_13 : decode cX1_turn 13 = .ok (.getfield 7, 3) := by decide +kernel
theorem dX1_turn_16 : decode cX1_turn 16 = .ok (.invokestatic 19, 3) := by decide +kernel
theorem dX1_turn_19 : decode cX1_turn 19 = .ok (.putfield 16, 3) := by decide +kernel
theorem dX1_turn_22 : decode cX1_turn 22 = .ok (.aload_n 0, 1) := by decide +kernel
theorem dX1_turn_23 : decode cX1_turn 23 = .ok (.aload_n 0, 1) := by decide +kernel
theorem dX1_turn_24 : decode cX1_turn 24 = .ok (.getfield 7, 3) := by decide +kernel
theorem dX1_turn_27 : decode cX1_turn 27 = .ok (.iload_n 1, 1) := by decide +kernel
theorem dX1_turn_28 : decode cX1_turn 28 = .ok (.invokestatic 25, 3) := by decide +kernel
theorem dX1_turn_31 : decode cX1_turn 31 = .ok (.putfield 7, 3) := by decide +kernel
theorem dX1_turn_34 : decode cX1_turn 34 = .ok (.return_, 1) := by decide +kernel
theorem dX1_copyFrom_0 : decode cX1_copyFrom 0 = .ok (.aload_n 0, 1) := by decide +kernel
theorem dX1_copyFrom_1 : decode cX1_copyFrom 1 = .ok (.aload_n 1, 1) := by decide +kernel
theorem dX1_copyFrom_2 : decode cX1_copyFrom 2 = .ok (.getfield 7, 3) := by decide +kernel
theorem dX1_copyFrom_5 : decode cX1_copyFrom 5 = .ok (.putfield 7, 3) := by decide +kernel
theorem dX1_copyFrom_8 : decode cX1_copyFrom 8 = .ok (.aload_n 0, 1) := by decide +kernel
theorem dX1_copyFrom_9 : decode cX1_copyFrom 9 = .ok (.aload_n 1, 1) := by decide +kernel
theorem dX1_copyFrom_10 : decode cX1_copyFrom 10 = .ok (.getfield 13, 3) := by decide +kernel
theorem dX1_copyFrom_13 : decode cX1_copyFrom 13 = .ok (.putfield 13, 3) := by decide +kernel
theorem dX1_copyFrom_16 : decode cX1_copyFrom 16 = .ok (.aload_n 0, 1) := by decide +kernel
theorem dX1_copyFrom_17 : decode cX1_copyFrom 17 = .ok (.aload_n 1, 1) := by decide +kernel
theorem dX1_copyFrom_18 : decode cX1_copyFrom 18 = .ok (.getfield 16, 3) := by decide +kernel
theorem dX1_copyFrom_21 : decode cX1_copyFrom 21 = .ok (.putfield 16, 3) := by decide +kernel
theorem dX1_copyFrom_24 : decode cX1_copyFrom 24 = .ok (.return_, 1) := by decide +kernel
theorem dX2_init_0 : decode cX2_init 0 = .ok (.aload_n 0, 1) := by decide +kernel
theorem dX2_init_1 : decode cX2_init 1 = .ok (.invokespecial 3, 3) := by decide +kernel
theorem dX2_init_4 : decode cX2_init 4 = .ok (.return_, 1) := by decide +kernel
theorem dX2_number_0 : decode cX2_number 0 = .ok (.iload_n 1, 1) := by decide +kernel
theorem dX2_number_1 : decode cX2_number 1 = .ok (.lookupswitch 37 #[(0, 27), (1, 32)], 27) := by decide +kernel
theorem dX2_number_28 : decode cX2_number 28 = .ok (.aload_n 0, 1) := by decide +kernel
theorem dX2_number_29 : decode cX2_number 29 = .ok (.getfield 9, 3) := by decide +kernel
theorem dX2_number_32 : decode cX2_number 32 = .ok (.ireturn, 1) := by decide +kernel
theorem dX2_number_33 : decode cX2_number 33 = .ok (.aload_n 0, 1) := by decide +kernel
theorem dX2_number_34 : decode cX2_number 34 = .ok (.getfield 15, 3) := by decide +kernel
theorem dX2_number_37 : decode cX2_number 37 = .ok (.ireturn, 1) := by decide +kernel
theorem dX2_number_38 : decode cX2_number 38 = .ok (.aload_n 0, 1) := by decide +kernel
theorem dX2_number_39 : decode cX2_number 39 = .ok (.getfield 18, 3) := by decide +kernel
theorem dX2_number_42 : decode cX2_number 42 = .ok (.ireturn, 1) := by decide +kernel
theorem dX2_take_0 : decode cX2_take 0 = .ok (.aload_n 0, 1) := by decide +kernel
theorem dX2_take_1 : decode cX2_take 1 = .ok (.bipush 60, 2) := by decide +kernel
theorem dX2_take_3 : decode cX2_take 3 = .ok (.aload_n 0, 1) := by decide +kernel
theorem dX2_take_4 : decode cX2_take 4 = .ok (.getfield 9, 3) := by decide +kernel
theorem dX2_take_7 : decode cX2_take 7 = .ok (.iconst 2, 1) := by decide +kernel
theorem dX2_take_8 : decode cX2_take 8 = .ok (.iload_n 1, 1) := by decide +kernel
theorem dX2_take_9 : decode cX2_take 9 = .ok (.imul, 1) := by decide +kernel
theorem dX2_take_10 : decode cX2_take 10 = .ok (.iadd, 1) := by decide +kernel
theorem dX2_take_11 : decode cX2_take 11 = .ok (.invokestatic 21, 3) := by decide +kernel
theorem dX2_take_14 : decode cX2_take 14 = .ok (.putfield 9, 3) := by decide +kernel
theorem dX2_take_17 : decode cX2_take 17 = .ok (.aload_n 0, 1) := by decide +kernel
theorem dX2_take_18 : decode cX2_take 18 = .ok (.aload_n 0, 1) := by decide +kernel
theorem dX2_take_19 : decode cX2_take 19 = .ok (.getfield 15, 3) := by decide +kernel
theorem dX2_take_22 : decode cX2_take 22 = .ok (.bipush 100, 2) := by decide +kernel
theorem dX2_take_24 : decode cX2_take 24 = .ok (.iload_n 2, 1) := by decide +kernel
theorem dX2_take_25 : decode cX2_take 25 = .ok (.isub, 1) := by decide +kernel
theorem dX2_take_26 : decode cX2_take 26 = .ok (.invokestatic 27, 3) := by decide +kernel
theorem dX2_take_29 : decode cX2_take 29 = .ok (.putfield 15, 3) := by decide +kernel
theorem dX2_take_32 : decode cX2_take 32 = .ok (.return_, 1) := by decide +kernel
theorem dX2_standInHeat_0 : decode cX2_standInHeat 0 = .ok (.aload_n 0, 1) := by decide +kernel
theorem dX2_standInHeat_1 : decode cX2_standInHeat 1 = .ok (.getfield 9, 3) := by decide +kernel
theorem dX2_standInHeat_4 : decode cX2_standInHeat 4 = .ok (.ifCond .ne 4, 3) := by decide +kernel
theorem dX2_standInHeat_7 : decode cX2_standInHeat 7 = .ok (.return_, 1) := by decide +kernel
theorem dX2_standInHeat_8 : decode cX2_standInHeat 8 = .ok (.iload_n 1, 1) := by decide +kernel
theorem dX2_standInHeat_9 : decode cX2_standInHeat 9 = .ok (.bipush 20, 2) := by decide +kernel
theorem dX2_standInHeat_11 : decode cX2_standInHeat 11 = .ok (.if_icmp .le 34, 3) := by decide +kernel
theorem dX2_standInHeat_14 : decode cX2_standInHeat 14 = .ok (.iload_n 2, 1) := by decide +kernel
theorem dX2_standInHeat_15 : decode cX2_standInHeat 15 = .ok (.bipush 100, 2) := by decide +kernel
theorem dX2_standInHeat_17 : decode cX2_standInHeat 17 = .ok (.if_icmp .ge 28, 3) := by decide +kernel
theorem dX2_standInHeat_20 : decode cX2_standInHeat 20 = .ok (.aload_n 0, 1) := by decide +kernel
theorem dX2_standInHeat_21 : decode cX2_standInHeat 21 = .ok (.bipush 100, 2) := by decide +kernel
theorem dX2_standInHeat_23 : decode cX2_standInHeat 23 = .ok (.aload_n 0, 1) := by decide +kernel
theorem dX2_standInHeat_24 : decode cX2_standInHeat 24 = .ok (.getfield 15, 3) := by decide +kernel
theorem dX2_standInHeat_27 : decode cX2_standInHeat 27 = .ok (.iload_n 1, 1) := by decide +kernel
theorem dX2_standInHeat_28 : decode cX2_standInHeat 28 = .ok (.bipush 20, 2) := by decide +kernel
theorem dX2_standInHeat_30 : decode cX2_standInHeat 30 = .ok (.isub, 1) := by decide +kernel
theorem dX2_standInHeat_31 : decode cX2_standInHeat 31 = .ok (.iconst 4, 1) := by decide +kernel
theorem dX2_standInHeat_32 : decode cX2_standInHeat 32 = .ok (.idiv, 1) := by decide +kernel
theorem dX2_standInHeat_33 : decode cX2_standInHeat 33 = .ok (.iadd, 1) := by decide +kernel
theorem dX2_standInHeat_34 : decode cX2_standInHeat 34 = .ok (.iconst 1, 1) := by decide +kernel
theorem dX2_standInHeat_35 : decode cX2_standInHeat 35 = .ok (.iadd, 1) := by decide +kernel
theorem dX2_standInHeat_36 : decode cX2_standInHeat 36 = .ok (.invokestatic 21, 3) := by decide +kernel
theorem dX2_standInHeat_39 : decode cX2_standInHeat 39 = .ok (.putfield 15, 3) := by decide +kernel
theorem dX2_standInHeat_42 : decode cX2_standInHeat 42 = .ok (.goto 17, 3) := by decide +kernel
theorem dX2_standInHeat_45 : decode cX2_standInHeat 45 = .ok (.aload_n 0, 1) := by decide +kernel
theorem dX2_standInHeat_46 : decode cX2_standInHeat 46 = .ok (.iconst 0, 1) := by decide +kernel
theorem dX2_standInHeat_47 : decode cX2_standInHeat 47 = .ok (.aload_n 0, 1) := by decide +kernel
theorem dX2_standInHeat_48 : decode cX2_standInHeat 48 = .ok (.getfield 15, 3) := by decide +kernel
theorem dX2_standInHeat_51 : decode cX2_standInHeat 51 = .ok (.iconst 1, 1) := by decide +kernel
theorem dX2_standInHeat_52 : decode cX2_standInHeat 52 = .ok (.isub, 1) := by decide +kernel
theorem dX2_standInHeat_53 : decode cX2_standInHeat 53 = .ok (.invokestatic 27, 3) := by decide +kernel
theorem dX2_standInHeat_56 : decode cX2_standInHeat 56 = .ok (.putfield 15, 3) := by decide +kernel
theorem dX2_standInHeat_59 : decode cX2_standInHeat 59 = .ok (.aload_n 0, 1) := by decide +kernel
theorem dX2_standInHeat_60 : decode cX2_standInHeat 60 = .ok (.getfield 15, 3) := by decide +kernel
theorem dX2_standInHeat_63 : decode cX2_standInHeat 63 = .ok (.bipush 100, 2) := by decide +kernel
theorem dX2_standInHeat_65 : decode cX2_standInHeat 65 = .ok (.if_icmp .ne 17, 3) := by decide +kernel
theorem dX2_standInHeat_68 : decode cX2_standInHeat 68 = .ok (.aload_n 0, 1) := by decide +kernel
theorem dX2_standInHeat_69 : decode cX2_standInHeat 69 = .ok (.iconst 0, 1) := by decide +kernel
theorem dX2_standInHeat_70 : decode cX2_standInHeat 70 = .ok (.aload_n 0, 1) := by decide +kernel
theorem dX2_standInHeat_71 : decode cX2_standInHeat 71 = .ok (.getfield 9, 3) := by decide +kernel
theorem dX2_standInHeat_74 : decode cX2_standInHeat 74 = .ok (.iconst 2, 1) := by decide +kernel
theorem dX2_standInHeat_75 : decode cX2_standInHeat 75 = .ok (.isub, 1) := by decide +kernel
theorem dX2_standInHeat_76 : decode cX2_standInHeat 76 = .ok (.invokestatic 27, 3) := by decide +kernel
theorem dX2_standInHeat_79 : decode cX2_standInHeat 79 = .ok (.putfield 9, 3) := by decide +kernel
theorem dX2_standInHeat_82 : decode cX2_standInHeat 82 = .ok (.return_, 1) := by decide +kernel
theorem dX2_sellScoop_0 : decode cX2_sellScoop 0 = .ok (.aload_n 0, 1) := by decide +kernel
theorem dX2_sellScoop_1 : decode cX2_sellScoop 1 = .ok (.dup, 1) := by decide +kernel
theorem dX2_sellScoop_2 : decode cX2_sellScoop 2 = .ok (.getfield 9, 3) := by decide +kernel
theorem dX2_sellScoop_5 : decode cX2_sellScoop 5 = .ok (.iconst 1, 1) := by decide +kernel
theorem dX2_sellScoop_6 : decode cX2_sellScoop 6 = .ok (.isub, 1) := by decide +kernel
theorem dX2_sellScoop_7 : decode cX2_sellScoop 7 = .ok (.putfield 9, 3) := by decide +kernel
theorem dX2_sellScoop_10 : decode cX2_sellScoop 10 = .ok (.aload_n 0, 1) := by decide +kernel
theorem dX2_sellScoop_11 : decode cX2_sellScoop 11 = .ok (.dup, 1) := by decide +kernel
theorem dX2_sellScoop_12 : decode cX2_sellScoop 12 = .ok (.getfield 18, 3) := by decide +kernel
theorem dX2_sellScoop_15 : decode cX2_sellScoop 15 = .ok (.iconst 1, 1) := by decide +kernel
theorem dX2_sellScoop_16 : decode cX2_sellScoop 16 = .ok (.iadd, 1) := by decide +kernel
theorem dX2_sellScoop_17 : decode cX2_sellScoop 17 = .ok (.putfield 18, 3) := by decide +kernel
theorem dX2_sellScoop_20 : decode cX2_sellScoop 20 = .ok (.aload_n 0, 1) := by decide +kernel
theorem dX2_sellScoop_21 : decode cX2_sellScoop 21 = .ok (.getfield 15, 3) := by decide +kernel
theorem dX2_sellScoop_24 : decode cX2_sellScoop 24 = .ok (.bipush 50, 2) := by decide +kernel
theorem dX2_sellScoop_26 : decode cX2_sellScoop 26 = .ok (.if_icmp .lt 7, 3) := by decide +kernel
theorem dX2_sellScoop_29 : decode cX2_sellScoop 29 = .ok (.iconst 2, 1) := by decide +kernel
theorem dX2_sellScoop_30 : decode cX2_sellScoop 30 = .ok (.goto 4, 3) := by decide +kernel
theorem dX2_sellScoop_33 : decode cX2_sellScoop 33 = .ok (.iconst 3, 1) := by decide +kernel
theorem dX2_sellScoop_34 : decode cX2_sellScoop 34 = .ok (.ireturn, 1) := by decide +kernel
theorem dX2_forgetSoftnessIfEmpty_0 : decode cX2_forgetSoftnessIfEmpty 0 = .ok (.aload_n 0, 1) := by decide +kernel
theorem dX2_forgetSoftnessIfEmpty_1 : decode cX2_forgetSoftnessIfEmpty 1 = .ok (.getfield 9, 3) := by decide +kernel
theorem dX2_forgetSoftnessIfEmpty_4 : decode cX2_forgetSoftnessIfEmpty 4 = .ok (.ifCond .ne 8, 3) := by decide +kernel
theorem dX2_forgetSoftnessIfEmpty_7 : decode cX2_forgetSoftnessIfEmpty 7 = .ok (.aload_n 0, 1) := by decide +kernel
theorem dX2_forgetSoftnessIfEmpty_8 : decode cX2_forgetSoftnessIfEmpty 8 = .ok (.iconst 0, 1) := by decide +kernel
theorem dX2_forgetSoftnessIfEmpty_9 : decode cX2_forgetSoftnessIfEmpty 9 = .ok (.putfield 15, 3) := by decide +kernel
theorem dX2_forgetSoftnessIfEmpty_12 : decode cX2_forgetSoftnessIfEmpty 12 = .ok (.return_, 1) := by decide +kernel
theorem dX2_copyFrom_0 : decode cX2_copyFrom 0 = .ok (.aload_n 0, 1) := by decide +kernel
theorem dX2_copyFrom_1 : decode cX2_copyFrom 1 = .ok (.aload_n 1, 1) := by decide +kernel
theorem dX2_copyFrom_2 : decode cX2_copyFrom 2 = .ok (.getfield 9, 3) := by decide +kernel
theorem dX2_copyFrom_5 : decode cX2_copyFrom 5 = .ok (.putfield 9, 3) := by decide +kernel
theorem dX2_copyFrom_8 : decode cX2_copyFrom 8 = .ok (.aload_n 0, 1) := by decide +kernel
theorem dX2_copyFrom_9 : decode cX2_copyFrom 9 = .ok (.aload_n 1, 1) := by decide +kernel
theorem dX2_copyFrom_10 : decode cX2_copyFrom 10 = .ok (.getfield 15, 3) := by decide +kernel
theorem dX2_copyFrom_13 : decode cX2_copyFrom 13 = .ok (.putfield 15, 3) := by decide +kernel
theorem dX2_copyFrom_16 : decode cX2_copyFrom 16 = .ok (.aload_n 0, 1) := by decide +kernel
theorem dX2_copyFrom_17 : decode cX2_copyFrom 17 = .ok (.aload_n 1, 1) := by decide +kernel
theorem dX2_copyFrom_18 : decode cX2_copyFrom 18 = .ok (.getfield 18, 3) := by decide +kernel
theorem dX2_copyFrom_21 : decode cX2_copyFrom 21 = .ok (.putfield 18, 3) := by decide +kernel
theorem dX2_copyFrom_24 : decode cX2_copyFrom 24 = .ok (.return_, 1) := by decide +kernel
theorem dJ9_floorMod_7cf53_0 : decode cJ9_floorMod_7cf53 0 = .ok (.iload_n 0, 1) := by decide +kernel
theorem dJ9_floorMod_7cf53_1 : decode cJ9_floorMod_7cf53 1 = .ok (.iload_n 1, 1) := by decide +kernel
theorem dJ9_floorMod_7cf53_2 : decode cJ9_floorMod_7cf53 2 = .ok (.irem, 1) := by decide +kernel
theorem dJ9_floorMod_7cf53_3 : decode cJ9_floorMod_7cf53 3 = .ok (.istore_n 2, 1) := by decide +kernel
theorem dJ9_floorMod_7cf53_4 : decode cJ9_floorMod_7cf53 4 = .ok (.iload_n 0, 1) := by decide +kernel
theorem dJ9_floorMod_7cf53_5 : decode cJ9_floorMod_7cf53 5 = .ok (.iload_n 1, 1) := by decide +kernel
theorem dJ9_floorMod_7cf53_6 : decode cJ9_floorMod_7cf53 6 = .ok (.ixor, 1) := by decide +kernel
theorem dJ9_floorMod_7cf53_7 : decode cJ9_floorMod_7cf53 7 = .ok (.ifCond .ge 11, 3) := by decide +kernel
theorem dJ9_floorMod_7cf53_10 : decode cJ9_floorMod_7cf53 10 = .ok (.iload_n 2, 1) := by decide +kernel
theorem dJ9_floorMod_7cf53_11 : decode cJ9_floorMod_7cf53 11 = .ok (.ifCond .eq 7, 3) := by decide +kernel
theorem dJ9_floorMod_7cf53_14 : decode cJ9_floorMod_7cf53 14 = .ok (.iload_n 2, 1) := by decide +kernel
theorem dJ9_floorMod_7cf53_15 : decode cJ9_floorMod_7cf53 15 = .ok (.iload_n 1, 1) := by decide +kernel
theorem dJ9_floorMod_7cf53_16 : decode cJ9_floorMod_7cf53 16 = .ok (.iadd, 1) := by decide +kernel
theorem dJ9_floorMod_7cf53_17 : decode cJ9_floorMod_7cf53 17 = .ok (.ireturn, 1) := by decide +kernel
theorem dJ9_floorMod_7cf53_18 : decode cJ9_floorMod_7cf53 18 = .ok (.iload_n 2, 1) := by decide +kernel
theorem dJ9_floorMod_7cf53_19 : decode cJ9_floorMod_7cf53 19 = .ok (.ireturn, 1) := by decide +kernel
theorem dJ9_max_7cf53_0 : decode cJ9_max_7cf53 0 = .ok (.iload_n 0, 1) := by decide +kernel
theorem dJ9_max_7cf53_1 : decode cJ9_max_7cf53 1 = .ok (.iload_n 1, 1) := by decide +kernel
theorem dJ9_max_7cf53_2 : decode cJ9_max_7cf53 2 = .ok (.if_icmp .lt 7, 3) := by decide +kernel
theorem dJ9_max_7cf53_5 : decode cJ9_max_7cf53 5 = .ok (.iload_n 0, 1) := by decide +kernel
theorem dJ9_max_7cf53_6 : decode cJ9_max_7cf53 6 = .ok (.goto 4, 3) := by decide +kernel
theorem dJ9_max_7cf53_9 : decode cJ9_max_7cf53 9 = .ok (.iload_n 1, 1) := by decide +kernel
theorem dJ9_max_7cf53_10 : decode cJ9_max_7cf53 10 = .ok (.ireturn, 1) := by decide +kernel
theorem dJ9_min_7cf53_0 : decode cJ9_min_7cf53 0 = .ok (.iload_n 0, 1) := by decide +kernel
theorem dJ9_min_7cf53_1 : decode cJ9_min_7cf53 1 = .ok (.iload_n 1, 1) := by decide +kernel
theorem dJ9_min_7cf53_2 : decode cJ9_min_7cf53 2 = .ok (.if_icmp .gt 7, 3) := by decide +kernel
theorem dJ9_min_7cf53_5 : decode cJ9_min_7cf53 5 = .ok (.iload_n 0, 1) := by decide +kernel
theorem dJ9_min_7cf53_6 : decode cJ9_min_7cf53 6 = .ok (.goto 4, 3) := by decide +kernel
theorem dJ9_min_7cf53_9 : decode cJ9_min_7cf53 9 = .ok (.iload_n 1, 1) := by decide +kernel
theorem dJ9_min_7cf53_10 : decode cJ9_min_7cf53 10 = .ok (.ireturn, 1) := by decide +kernel
theorem dJ7_fill_53178_0 : decode cJ7_fill_53178 0 = .ok (.iconst 0, 1) := by decide +kernel
theorem dJ7_fill_53178_1 : decode cJ7_fill_53178 1 = .ok (.istore_n 2, 1) := by decide +kernel
theorem dJ7_fill_53178_2 : decode cJ7_fill_53178 2 = .ok (.aload_n 0, 1) := by decide +kernel
theorem dJ7_fill_53178_3 : decode cJ7_fill_53178 3 = .ok (.arraylength, 1) := by decide +kernel
theorem dJ7_fill_53178_4 : decode cJ7_fill_53178 4 = .ok (.istore_n 3, 1) := by decide +kernel
theorem dJ7_fill_53178_5 : decode cJ7_fill_53178 5 = .ok (.iload_n 2, 1) := by decide +kernel
theorem dJ7_fill_53178_6 : decode cJ7_fill_53178 6 = .ok (.iload_n 3, 1) := by decide +kernel
theorem dJ7_fill_53178_7 : decode cJ7_fill_53178 7 = .ok (.if_icmp .ge 13, 3) := by decide +kernel
theorem dJ7_fill_53178_10 : decode cJ7_fill_53178 10 = .ok (.aload_n 0, 1) := by decide +kernel
theorem dJ7_fill_53178_11 : decode cJ7_fill_53178 11 = .ok (.iload_n 2, 1) := by decide +kernel
theorem dJ7_fill_53178_12 : decode cJ7_fill_53178 12 = .ok (.iload_n 1, 1) := by decide +kernel
theorem dJ7_fill_53178_13 : decode cJ7_fill_53178 13 = .ok (.iastore, 1) := by decide +kernel
theorem dJ7_fill_53178_14 : decode cJ7_fill_53178 14 = .ok (.iinc 2 1, 3) := by decide +kernel
theorem dJ7_fill_53178_17 : decode cJ7_fill_53178 17 = .ok (.goto (-12), 3) := by decide +kernel
theorem dJ7_fill_53178_20 : decode cJ7_fill_53178 20 = .ok (.return_, 1) := by decide +kernel
end
section
set_option maxRecDepth 20000 in
theorem ggX3_init_X0_init : GoodIn wsX3_init wsX0_init := goodIn_r _ [11, 12, 2, 3, 13, 14, 15, 16, 17, 18, 19, 20, 21, 22, 23, 24, 25, 26, 27, 28, 29, 30, 31, 32, 33, 34, 35, 36, 37, 38, 39, 40, 41, 42, 45, 46, 47, 48, 49, 50] (by decide +kernel) (by decide +kernel)
set_option maxRecDepth 20000 in
theorem gX3_init_X0_init : GoodIn wsX3_init (wsX0_init) := ggX3_init_X0_init
theorem dX3_init_0 : decode cX3_init 0 = .ok (.aload_n 0, 1) := by decide +kernel
theorem dX3_init_1 : decode cX3_init 1 = .ok (.invokespecial 1, 3) := by decide +kernel
theorem dX3_init_4 : decode cX3_init 4 = .ok (.aload_n 0, 1) := by decide +kernel
theorem dX3_init_5 : decode cX3_init 5 = .ok (.new 7, 3) := by decide +kernel
theorem dX3_init_8 : decode cX3_init 8 = .ok (.dup, 1) := by decide +kernel
theorem dX3_init_9 : decode cX3_init 9 = .ok (.invokespecial 9, 3) := by decide +kernel
theorem dX3_init_12 : decode cX3_init 12 = .ok (.putfield 10, 3) := by decide +kernel
theorem dX3_init_15 : decode cX3_init 15 = .ok (.aload_n 0, 1) := by decide +kernel
theorem dX3_init_16 : decode cX3_init 16 = .ok (.new 7, 3) := by decide +kernel
theorem dX3_init_19 : decode cX3_init 19 = .ok (.dup, 1) := by decide +kernel
theorem dX3_init_20 : decode cX3_init 20 = .ok (.invokespecial 9, 3) := by decide +kernel
theorem dX3_init_23 : decode cX3_init 23 = .ok (.putfield 16, 3) := by decide +kernel
theorem dX3_init_26 : decode cX3_init 26 = .ok (.return_, 1) := by decide +kernel
theorem dX3_bring_0 : decode cX3_bring 0 = .ok (.iload_n 1, 1) := by decide +kernel
theorem dX3_bring_1 : decode cX3_bring 1 = .ok (.ifCond .lt 8, 3) := by decide +kernel
theorem dX3_bring_4 : decode cX3_bring 4 = .ok (.iload_n 1, 1) := by decide +kernel
theorem dX3_bring_5 : decode cX3_bring 5 = .ok (.iconst 3, 1) := by decide +kernel
theorem dX3_bring_6 : decode cX3_bring 6 = .ok (.if_icmp .le 13, 3) := by decide +kernel
theorem dX3_bring_9 : decode cX3_bring 9 = .ok (.new 19, 3) := by decide +kernel
theorem dX3_bring_12 : decode cX3_bring 12 = .ok (.dup, 1) := by decide +kernel
theorem dX3_bring_13 : decode cX3_bring 13 = .ok (.ldc 21, 2) := by decide +kernel
theorem dX3_bring_15 : decode cX3_bring 15 = .ok (.invokespecial 23, 3) := by decide +kernel
theorem dX3_bring_18 : decode cX3_bring 18 = .ok (.athrow, 1) := by decide +kernel
theorem dX3_bring_19 : decode cX3_bring 19 = .ok (.iload_n 2, 1) := by decide +kernel
theorem dX3_bring_20 : decode cX3_bring 20 = .ok (.iconst 1, 1) := by decide +kernel
theorem dX3_bring_21 : decode cX3_bring 21 = .ok (.if_icmp .lt 10, 3) := by decide +kernel
theorem dX3_bring_24 : decode cX3_bring 24 = .ok (.iload_n 2, 1) := by decide +kernel
theorem dX3_bring_25 : decode cX3_bring 25 = .ok (.sipush 300, 3) := by decide +kernel
theorem dX3_bring_28 : decode cX3_bring 28 = .ok (.if_icmp .le 13, 3) := by decide +kernel
theorem dX3_bring_31 : decode cX3_bring 31 = .ok (.new 26, 3) := by decide +kernel
theorem dX3_bring_34 : decode cX3_bring 34 = .ok (.dup, 1) := by decide +kernel
theorem dX3_bring_35 : decode cX3_bring 35 = .ok (.ldc 28, 2) := by decide +kernel
theorem dX3_bring_37 : decode cX3_bring 37 = .ok (.invokespecial 30, 3) := by decide +kernel
theorem dX3_bring_40 : decode cX3_bring 40 = .ok (.athrow, 1) := by decide +kernel
theorem dX3_bring_41 : decode cX3_bring 41 = .ok (.aload_n 0, 1) := by decide +kernel
theorem dX3_bring_42 : decode cX3_bring 42 = .ok (.getfield 10, 3) := by decide +kernel
theorem dX3_bring_45 : decode cX3_bring 45 = .ok (.getfield 31, 3) := by decide +kernel
theorem dX3_bring_48 : decode cX3_bring 48 = .ok (.iload_n 1, 1) := by decide +kernel
theorem dX3_bring_49 : decode cX3_bring 49 = .ok (.getstatic 35, 3) := by decide +kernel
theorem dX3_bring_52 : decode cX3_bring 52 = .ok (.iload_n 1, 1) := by decide +kernel
theorem dX3_bring_53 : decode cX3_bring 53 = .ok (.iaload, 1) := by decide +kernel
theorem dX3_bring_54 : decode cX3_bring 54 = .ok (.aload_n 0, 1) := by decide +kernel
theorem dX3_bring_55 : decode cX3_bring 55 = .ok (.getfield 10, 3) := by decide +kernel
theorem dX3_bring_58 : decode cX3_bring 58 = .ok (.getfield 31, 3) := by decide +kernel
theorem dX3_bring_61 : decode cX3_bring 61 = .ok (.iload_n 1, 1) := by decide +kernel
theorem dX3_bring_62 : decode cX3_bring 62 = .ok (.iaload, 1) := by decide +kernel
theorem dX3_bring_63 : decode cX3_bring 63 = .ok (.iload_n 2, 1) := by decide +kernel
theorem dX3_bring_64 : decode cX3_bring 64 = .ok (.iadd, 1) := by decide +kernel
theorem dX3_bring_65 : decode cX3_bring 65 = .ok (.invokestatic 38, 3) := by decide +kernel
theorem dX3_bring_68 : decode cX3_bring 68 = .ok (.iastore, 1) := by decide +kernel
theorem dX3_bring_69 : decode cX3_bring 69 = .ok (.aload_n 0, 1) := by decide +kernel
theorem dX3_bring_70 : decode cX3_bring 70 = .ok (.getfield 10, 3) := by decide +kernel
theorem dX3_bring_73 : decode cX3_bring 73 = .ok (.getfield 31, 3) := by decide +kernel
theorem dX3_bring_76 : decode cX3_bring 76 = .ok (.iload_n 1, 1) := by decide +kernel
theorem dX3_bring_77 : decode cX3_bring 77 = .ok (.iaload, 1) := by decide +kernel
theorem dX3_bring_78 : decode cX3_bring 78 = .ok (.ireturn, 1) := by decide +kernel
theorem dX3_setHeat_0 : decode cX3_setHeat 0 = .ok (.iload_n 1, 1) := by decide +kernel
theorem dX3_setHeat_1 : decode cX3_setHeat 1 = .ok (.ifCond .lt 9, 3) := by decide +kernel
theorem dX3_setHeat_4 : decode cX3_setHeat 4 = .ok (.iload_n 1, 1) := by decide +kernel
theorem dX3_setHeat_5 : decode cX3_setHeat 5 = .ok (.bipush 7, 2) := by decide +kernel
theorem dX3_setHeat_7 : decode cX3_setHeat 7 = .ok (.if_icmp .lt 13, 3) := by decide +kernel
theorem dX3_setHeat_10 : decode cX3_setHeat 10 = .ok (.new 19, 3) := by decide +kernel
theorem dX3_setHeat_13 : decode cX3_setHeat 13 = .ok (.dup, 1) := by decide +kernel
theorem dX3_setHeat_14 : decode cX3_setHeat 14 = .ok (.ldc 44, 2) := by decide +kernel
theorem dX3_setHeat_16 : decode cX3_setHeat 16 = .ok (.invokespecial 23, 3) := by decide +kernel
theorem dX3_setHeat_19 : decode cX3_setHeat 19 = .ok (.athrow, 1) := by decide +kernel
theorem dX3_setHeat_20 : decode cX3_setHeat 20 = .ok (.iload_n 2, 1) := by decide +kernel
theorem dX3_setHeat_21 : decode cX3_setHeat 21 = .ok (.ifCond .lt 9, 3) := by decide +kernel
theorem dX3_setHeat_24 : decode cX3_setHeat 24 = .ok (.iload_n 2, 1) := by decide +kernel
theorem dX3_setHeat_25 : decode cX3_setHeat 25 = .ok (.bipush 40, 2) := by decide +kernel
theorem dX3_setHeat_27 : decode cX3_setHeat 27 = .ok (.if_icmp .le 13, 3) := by decide +kernel
theorem dX3_setHeat_30 : decode cX3_setHeat 30 = .ok (.new 26, 3) := by decide +kernel
theorem dX3_setHeat_33 : decode cX3_setHeat 33 = .ok (.dup, 1) := by decide +kernel
theorem dX3_setHeat_34 : decode cX3_setHeat 34 = .ok (.ldc 46, 2) := by decide +kernel
theorem dX3_setHeat_36 : decode cX3_setHeat 36 = .ok (.invokespecial 30, 3) := by decide +kernel
theorem dX3_setHeat_39 : decode cX3_setHeat 39 = .ok (.athrow, 1) := by decide +kernel
theorem dX3_setHeat_40 : decode cX3_setHeat 40 = .ok (.aload_n 0, 1) := by decide +kernel
theorem dX3_setHeat_41 : decode cX3_setHeat 41 = .ok (.getfield 10, 3) := by decide +kernel
theorem dX3_setHeat_44 : decode cX3_setHeat 44 = .ok (.getfield 48, 3) := by decide +kernel
theorem dX3_setHeat_47 : decode cX3_setHeat 47 = .ok (.iload_n 1, 1) := by decide +kernel
theorem dX3_setHeat_48 : decode cX3_setHeat 48 = .ok (.iaload, 1) := by decide +kernel
theorem dX3_setHeat_49 : decode cX3_setHeat 49 = .ok (.istore_n 3, 1) := by decide +kernel
theorem dX3_setHeat_50 : decode cX3_setHeat 50 = .ok (.aload_n 0, 1) := by decide +kernel
theorem dX3_setHeat_51 : decode cX3_setHeat 51 = .ok (.getfield 10, 3) := by decide +kernel
theorem dX3_setHeat_54 : decode cX3_setHeat 54 = .ok (.getfield 48, 3) := by decide +kernel
theorem dX3_setHeat_57 : decode cX3_setHeat 57 = .ok (.iload_n 1, 1) := by decide +kernel
theorem dX3_setHeat_58 : decode cX3_setHeat 58 = .ok (.iload_n 2, 1) := by decide +kernel
theorem dX3_setHeat_59 : decode cX3_setHeat 59 = .ok (.iastore, 1) := by decide +kernel
theorem dX3_setHeat_60 : decode cX3_setHeat 60 = .ok (.iload_n 3, 1) := by decide +kernel
theorem dX3_setHeat_61 : decode cX3_setHeat 61 = .ok (.ireturn, 1) := by decide +kernel
theorem dX3_churn_0 : decode cX3_churn 0 = .ok (.aload_n 0, 1) := by decide +kernel
theorem dX3_churn_1 : decode cX3_churn 1 = .ok (.getfield 10, 3) := by decide +kernel
theorem dX3_churn_4 : decode cX3_churn 4 = .ok (.getfield 51, 3) := by decide +kernel
theorem dX3_churn_7 : decode cX3_churn 7 = .ok (.iconst 4, 1) := by decide +kernel
theorem dX3_churn_8 : decode cX3_churn 8 = .ok (.if_icmp .lt 13, 3) := by decide +kernel
theorem dX3_churn_11 : decode cX3_churn 11 = .ok (.new 55, 3) := by decide +kernel
theorem dX3_churn_14 : decode cX3_churn 14 = .ok (.dup, 1) := by decide +kernel
theorem dX3_churn_15 : decode cX3_churn 15 = .ok (.ldc 57, 2) := by decide +kernel
theorem dX3_churn_17 : decode cX3_churn 17 = .ok (.invokespecial 59, 3) := by decide +kernel
theorem dX3_churn_20 : decode cX3_churn 20 = .ok (.athrow, 1) := by decide +kernel
theorem dX3_churn_21 : decode cX3_churn 21 = .ok (.aload_n 0, 1) := by decide +kernel
theorem dX3_churn_22 : decode cX3_churn 22 = .ok (.getfield 10, 3) := by decide +kernel
theorem dX3_churn_25 : decode cX3_churn 25 = .ok (.getfield 51, 3) := by decide +kernel
theorem dX3_churn_28 : decode cX3_churn 28 = .ok (.istore_n 1, 1) := by decide +kernel
theorem dX3_churn_29 : decode cX3_churn 29 = .ok (.aload_n 0, 1) := by decide +kernel
theorem dX3_churn_30 : decode cX3_churn 30 = .ok (.getfield 10, 3) := by decide +kernel
theorem dX3_churn_33 : decode cX3_churn 33 = .ok (.iload_n 1, 1) := by decide +kernel
theorem dX3_churn_34 : decode cX3_churn 34 = .ok (.iconst 1, 1) := by decide +kernel
theorem dX3_churn_35 : decode cX3_churn 35 = .ok (.iadd, 1) := by decide +kernel
theorem dX3_churn_36 : decode cX3_churn 36 = .ok (.putfield 51, 3) := by decide +kernel
theorem dX3_churn_39 : decode cX3_churn 39 = .ok (.iload_n 1, 1) := by decide +kernel
theorem dX3_churn_40 : decode cX3_churn 40 = .ok (.ireturn, 1) := by decide +kernel
theorem dX3_tub_0 : decode cX3_tub 0 = .ok (.aload_n 0, 1) := by decide +kernel
theorem dX3_tub_1 : decode cX3_tub 1 = .ok (.getfield 10, 3) := by decide +kernel
theorem dX3_tub_4 : decode cX3_tub 4 = .ok (.getfield 60, 3) := by decide +kernel
theorem dX3_tub_7 : decode cX3_tub 7 = .ok (.bipush 6, 2) := by decide +kernel
theorem dX3_tub_9 : decode cX3_tub 9 = .ok (.if_icmp .lt 13, 3) := by decide +kernel
theorem dX3_tub_12 : decode cX3_tub 12 = .ok (.new 55, 3) := by decide +kernel
theorem dX3_tub_15 : decode cX3_tub 15 = .ok (.dup, 1) := by decide +kernel
theorem dX3_tub_16 : decode cX3_tub 16 = .ok (.ldc 63, 2) := by decide +kernel
theorem dX3_tub_18 : decode cX3_tub 18 = .ok (.invokespecial 59, 3) := by decide +kernel
theorem dX3_tub_21 : decode cX3_tub 21 = .ok (.athrow, 1) := by decide +kernel
theorem dX3_tub_22 : decode cX3_tub 22 = .ok (.aload_n 0, 1) := by decide +kernel
theorem dX3_tub_23 : decode cX3_tub 23 = .ok (.getfield 10, 3) := by decide +kernel
theorem dX3_tub_26 : decode cX3_tub 26 = .ok (.getfield 60, 3) := by decide +kernel
theorem dX3_tub_29 : decode cX3_tub 29 = .ok (.istore_n 1, 1) := by decide +kernel
theorem dX3_tub_30 : decode cX3_tub 30 = .ok (.aload_n 0, 1) := by decide +kernel
theorem dX3_tub_31 : decode cX3_tub 31 = .ok (.getfield 10, 3) := by decide +kernel
theorem dX3_tub_34 : decode cX3_tub 34 = .ok (.iload_n 1, 1) := by decide +kernel
theorem dX3_tub_35 : decode cX3_tub 35 = .ok (.iconst 1, 1) := by decide +kernel
theorem dX3_tub_36 : decode cX3_tub 36 = .ok (.iadd, 1) := by decide +kernel
theorem dX3_tub_37 : decode cX3_tub 37 = .ok (.putfield 60, 3) := by decide +kernel
theorem dX3_tub_40 : decode cX3_tub 40 = .ok (.iload_n 1, 1) := by decide +kernel
theorem dX3_tub_41 : decode cX3_tub 41 = .ok (.ireturn, 1) := by decide +kernel
set_option maxRecDepth 20000 in
theorem ggX3_pack_X3_existingChurn : GoodIn wsX3_pack wsX3_existingChurn := goodIn_ca (goodIn_r _ [8, 9, 10, 3, 26, 27, 28, 29, 30, 31, 32, 33, 34, 35, 36] (by decide +kernel) (by decide +kernel)) (goodIn_sub (fun _ h => List.mem_cons_of_mem _ (List.mem_append_left _ (List.mem_append_right _ h))) (by decide +kernel))
set_option maxRecDepth 20000 in
theorem gX3_pack_X3_existingChurn : GoodIn wsX3_pack (wsV RX3 65 RX3 yX3_existingChurn wsX3_existingChurn) := goodIn_app (goodIn_of _ (by decide +kernel)) ggX3_pack_X3_existingChurn
set_option maxRecDepth 20000 in
theorem ggX3_pack_X3_checkPacked : GoodIn wsX3_pack wsX3_checkPacked := goodIn_ca (goodIn_r _ [13, 14, 15] (by decide +kernel) (by decide +kernel)) (goodIn_sub (fun _ h => List.mem_cons_of_mem _ (List.mem_append_right _ h)) (by decide +kernel))
set_option maxRecDepth 20000 in
theorem gX3_pack_X3_checkPacked : GoodIn wsX3_pack (va_wsS RX3 69 yX3_checkPacked wsX3_checkPacked) := goodIn_app (goodIn_of _ (by decide +kernel)) ggX3_pack_X3_checkPacked
set_option maxRecDepth 20000 in
theorem ggX3_pack_X3_coldWithBrine : GoodIn wsX3_pack wsX3_coldWithBrine := goodIn_r _ [18, 19, 20, 21, 22, 23, 24, 7, 25] (by decide +kernel) (by decide +kernel)
set_option maxRecDepth 20000 in
theorem gX3_pack_X3_coldWithBrine : GoodIn wsX3_pack (va_wsS RX3 80 yX3_coldWithBrine wsX3_coldWithBrine) := goodIn_app (goodIn_of _ (by decide +kernel)) ggX3_pack_X3_coldWithBrine
theorem dX3_pack_0 : decode cX3_pack 0 = .ok (.aload_n 0, 1) := by decide +kernel
theorem dX3_pack_1 : decode cX3_pack 1 = .ok (.iload_n 1, 1) := by decide +kernel
theorem dX3_pack_2 : decode cX3_pack 2 = .ok (.invokevirtual 65, 3) := by decide +kernel
theorem dX3_pack_5 : decode cX3_pack 5 = .ok (.astore 4, 2) := by decide +kernel
theorem dX3_pack_7 : decode cX3_pack 7 = .ok (.iload_n 2, 1) := by decide +kernel
theorem dX3_pack_8 : decode cX3_pack 8 = .ok (.invokestatic 69, 3) := by decide +kernel
theorem dX3_pack_11 : decode cX3_pack 11 = .ok (.iload_n 3, 1) := by decide +kernel
theorem dX3_pack_12 : decode cX3_pack 12 = .ok (.invokestatic 69, 3) := by decide +kernel
theorem dX3_pack_15 : decode cX3_pack 15 = .ok (.iload_n 2, 1) := by decide +kernel
theorem dX3_pack_16 : decode cX3_pack 16 = .ok (.aload_n 0, 1) := by decide +kernel
theorem dX3_pack_17 : decode cX3_pack 17 = .ok (.getfield 10, 3) := by decide +kernel
theorem dX3_pack_20 : decode cX3_pack 20 = .ok (.getfield 31, 3) := by decide +kernel
theorem dX3_pack_23 : decode cX3_pack 23 = .ok (.iconst 0, 1) := by decide +kernel
theorem dX3_pack_24 : decode cX3_pack 24 = .ok (.iaload, 1) := by decide +kernel
theorem dX3_pack_25 : decode cX3_pack 25 = .ok (.if_icmp .gt 16, 3) := by decide +kernel
theorem dX3_pack_28 : decode cX3_pack 28 = .ok (.iload_n 3, 1) := by decide +kernel
theorem dX3_pack_29 : decode cX3_pack 29 = .ok (.aload_n 0, 1) := by decide +kernel
theorem dX3_pack_30 : decode cX3_pack 30 = .ok (.getfield 10, 3) := by decide +kernel
theorem dX3_pack_33 : decode cX3_pack 33 = .ok (.getfield 31, 3) := by decide +kernel
theorem dX3_pack_36 : decode cX3_pack 36 = .ok (.iconst 1, 1) := by decide +kernel
theorem dX3_pack_37 : decode cX3_pack 37 = .ok (.iaload, 1) := by decide +kernel
theorem dX3_pack_38 : decode cX3_pack 38 = .ok (.if_icmp .le 13, 3) := by decide +kernel
theorem dX3_pack_41 : decode cX3_pack 41 = .ok (.new 55, 3) := by decide +kernel
theorem dX3_pack_44 : decode cX3_pack 44 = .ok (.dup, 1) := by decide +kernel
theorem dX3_pack_45 : decode cX3_pack 45 = .ok (.ldc 73, 2) := by decide +kernel
theorem dX3_pack_47 : decode cX3_pack 47 = .ok (.invokespecial 59, 3) := by decide +kernel
theorem dX3_pack_50 : decode cX3_pack 50 = .ok (.athrow, 1) := by decide +kernel
theorem dX3_pack_51 : decode cX3_pack 51 = .ok (.aload_n 0, 1) := by decide +kernel
theorem dX3_pack_52 : decode cX3_pack 52 = .ok (.getfield 10, 3) := by decide +kernel
theorem dX3_pack_55 : decode cX3_pack 55 = .ok (.getfield 31, 3) := by decide +kernel
theorem dX3_pack_58 : decode cX3_pack 58 = .ok (.iconst 0, 1) := by decide +kernel
theorem dX3_pack_59 : decode cX3_pack 59 = .ok (.dup2, 1) := by decide +kernel
theorem dX3_pack_60 : decode cX3_pack 60 = .ok (.iaload, 1) := by decide +kernel
theorem dX3_pack_61 : decode cX3_pack 61 = .ok (.iload_n 2, 1) := by decide +kernel
theorem dX3_pack_62 : decode cX3_pack 62 = .ok (.isub, 1) := by decide +kernel
theorem dX3_pack_63 : decode cX3_pack 63 = .ok (.iastore, 1) := by decide +kernel
theorem dX3_pack_64 : decode cX3_pack 64 = .ok (.aload_n 0, 1) := by decide +kernel
theorem dX3_pack_65 : decode cX3_pack 65 = .ok (.getfield 10, 3) := by decide +kernel
theorem dX3_pack_68 : decode cX3_pack 68 = .ok (.getfield 31, 3) := by decide +kernel
theorem dX3_pack_71 : decode cX3_pack 71 = .ok (.iconst 1, 1) := by decide +kernel
theorem dX3_pack_72 : decode cX3_pack 72 = .ok (.dup2, 1) := by decide +kernel
theorem dX3_pack_73 : decode cX3_pack 73 = .ok (.iaload, 1) := by decide +kernel
theorem dX3_pack_74 : decode cX3_pack 74 = .ok (.iload_n 3, 1) := by decide +kernel
theorem dX3_pack_75 : decode cX3_pack 75 = .ok (.isub, 1) := by decide +kernel
theorem dX3_pack_76 : decode cX3_pack 76 = .ok (.iastore, 1) := by decide +kernel
theorem dX3_pack_77 : decode cX3_pack 77 = .ok (.aload 4, 2) := by decide +kernel
theorem dX3_pack_79 : decode cX3_pack 79 = .ok (.aload 4, 2) := by decide +kernel
theorem dX3_pack_81 : decode cX3_pack 81 = .ok (.getfield 75, 3) := by decide +kernel
theorem dX3_pack_84 : decode cX3_pack 84 = .ok (.iload_n 2, 1) := by decide +kernel
theorem dX3_pack_85 : decode cX3_pack 85 = .ok (.iload_n 3, 1) := by decide +kernel
theorem dX3_pack_86 : decode cX3_pack 86 = .ok (.invokestatic 80, 3) := by decide +kernel
theorem dX3_pack_89 : decode cX3_pack 89 = .ok (.putfield 75, 3) := by decide +kernel
theorem dX3_pack_92 : decode cX3_pack 92 = .ok (.aload 4, 2) := by decide +kernel
theorem dX3_pack_94 : decode cX3_pack 94 = .ok (.getfield 75, 3) := by decide +kernel
theorem dX3_pack_97 : decode cX3_pack 97 = .ok (.ireturn, 1) := by decide +kernel
set_option maxRecDepth 20000 in
theorem ggX3_pour_X3_existingChurn : GoodIn wsX3_pour wsX3_existingChurn := goodIn_ca (goodIn_r _ [10, 11, 12, 5, 20, 21, 22, 23, 24, 25, 26, 27, 28, 29, 30] (by decide +kernel) (by decide +kernel)) (goodIn_sub (fun _ h => List.mem_cons_of_mem _ (List.mem_append_right _ h)) (by decide +kernel))
set_option maxRecDepth 20000 in
theorem gX3_pour_X3_existingChurn : GoodIn wsX3_pour (wsV RX3 65 RX3 yX3_existingChurn wsX3_existingChurn) := goodIn_app (goodIn_of _ (by decide +kernel)) ggX3_pour_X3_existingChurn
set_option maxRecDepth 20000 in
theorem ggX3_pour_X1_add : GoodIn wsX3_pour wsX1_add := goodIn_r _ [17, 18, 19, 31, 32, 33] (by decide +kernel) (by decide +kernel)
set_option maxRecDepth 20000 in
theorem gX3_pour_X1_add : GoodIn wsX3_pour (wsV RX3 93 RX1 yX1_add wsX1_add) := goodIn_app (goodIn_of _ (by decide +kernel)) ggX3_pour_X1_add
theorem dX3_pour_0 : decode cX3_pour 0 = .ok (.aload_n 0, 1) := by decide +kernel
theorem dX3_pour_1 : decode cX3_pour 1 = .ok (.iload_n 1, 1) := by decide +kernel
theorem dX3_pour_2 : decode cX3_pour 2 = .ok (.invokevirtual 65, 3) := by decide +kernel
theorem dX3_pour_5 : decode cX3_pour 5 = .ok (.astore_n 3, 1) := by decide +kernel
theorem dX3_pour_6 : decode cX3_pour 6 = .ok (.iload_n 2, 1) := by decide +kernel
theorem dX3_pour_7 : decode cX3_pour 7 = .ok (.iconst 1, 1) := by decide +kernel
theorem dX3_pour_8 : decode cX3_pour 8 = .ok (.if_icmp .lt 9, 3) := by decide +kernel
theorem dX3_pour_11 : decode cX3_pour 11 = .ok (.iload_n 2, 1) := by decide +kernel
theorem dX3_pour_12 : decode cX3_pour 12 = .ok (.bipush 20, 2) := by decide +kernel
theorem dX3_pour_14 : decode cX3_pour 14 = .ok (.if_icmp .le 13, 3) := by decide +kernel
theorem dX3_pour_17 : decode cX3_pour 17 = .ok (.new 26, 3) := by decide +kernel
theorem dX3_pour_20 : decode cX3_pour 20 = .ok (.dup, 1) := by decide +kernel
theorem dX3_pour_21 : decode cX3_pour 21 = .ok (.ldc 84, 2) := by decide +kernel
theorem dX3_pour_23 : decode cX3_pour 23 = .ok (.invokespecial 30, 3) := by decide +kernel
theorem dX3_pour_26 : decode cX3_pour 26 = .ok (.athrow, 1) := by decide +kernel
theorem dX3_pour_27 : decode cX3_pour 27 = .ok (.iload_n 2, 1) := by decide +kernel
theorem dX3_pour_28 : decode cX3_pour 28 = .ok (.aload_n 0, 1) := by decide +kernel
theorem dX3_pour_29 : decode cX3_pour 29 = .ok (.getfield 10, 3) := by decide +kernel
theorem dX3_pour_32 : decode cX3_pour 32 = .ok (.getfield 31, 3) := by decide +kernel
theorem dX3_pour_35 : decode cX3_pour 35 = .ok (.iconst 2, 1) := by decide +kernel
theorem dX3_pour_36 : decode cX3_pour 36 = .ok (.iaload, 1) := by decide +kernel
theorem dX3_pour_37 : decode cX3_pour 37 = .ok (.if_icmp .le 13, 3) := by decide +kernel
theorem dX3_pour_40 : decode cX3_pour 40 = .ok (.new 55, 3) := by decide +kernel
theorem dX3_pour_43 : decode cX3_pour 43 = .ok (.dup, 1) := by decide +kernel
theorem dX3_pour_44 : decode cX3_pour 44 = .ok (.ldc 86, 2) := by decide +kernel
theorem dX3_pour_46 : decode cX3_pour 46 = .ok (.invokespecial 59, 3) := by decide +kernel
theorem dX3_pour_49 : decode cX3_pour 49 = .ok (.athrow, 1) := by decide +kernel
theorem dX3_pour_50 : decode cX3_pour 50 = .ok (.aload_n 3, 1) := by decide +kernel
theorem dX3_pour_51 : decode cX3_pour 51 = .ok (.getfield 88, 3) := by decide +kernel
theorem dX3_pour_54 : decode cX3_pour 54 = .ok (.iload_n 2, 1) := by decide +kernel
theorem dX3_pour_55 : decode cX3_pour 55 = .ok (.iadd, 1) := by decide +kernel
theorem dX3_pour_56 : decode cX3_pour 56 = .ok (.bipush 20, 2) := by decide +kernel
theorem dX3_pour_58 : decode cX3_pour 58 = .ok (.if_icmp .le 13, 3) := by decide +kernel
theorem dX3_pour_61 : decode cX3_pour 61 = .ok (.new 55, 3) := by decide +kernel
theorem dX3_pour_64 : decode cX3_pour 64 = .ok (.dup, 1) := by decide +kernel
theorem dX3_pour_65 : decode cX3_pour 65 = .ok (.ldc 91, 2) := by decide +kernel
theorem dX3_pour_67 : decode cX3_pour 67 = .ok (.invokespecial 59, 3) := by decide +kernel
theorem dX3_pour_70 : decode cX3_pour 70 = .ok (.athrow, 1) := by decide +kernel
theorem dX3_pour_71 : decode cX3_pour 71 = .ok (.aload_n 0, 1) := by decide +kernel
theorem dX3_pour_72 : decode cX3_pour 72 = .ok (.getfield 10, 3) := by decide +kernel
theorem dX3_pour_75 : decode cX3_pour 75 = .ok (.getfield 31, 3) := by decide +kernel
theorem dX3_pour_78 : decode cX3_pour 78 = .ok (.iconst 2, 1) := by decide +kernel
theorem dX3_pour_79 : decode cX3_pour 79 = .ok (.dup2, 1) := by decide +kernel
theorem dX3_pour_80 : decode cX3_pour 80 = .ok (.iaload, 1) := by decide +kernel
theorem dX3_pour_81 : decode cX3_pour 81 = .ok (.iload_n 2, 1) := by decide +kernel
theorem dX3_pour_82 : decode cX3_pour 82 = .ok (.isub, 1) := by decide +kernel
theorem dX3_pour_83 : decode cX3_pour 83 = .ok (.iastore, 1) := by decide +kernel
theorem dX3_pour_84 : decode cX3_pour 84 = .ok (.aload_n 3, 1) := by decide +kernel
theorem dX3_pour_85 : decode cX3_pour 85 = .ok (.iload_n 2, 1) := by decide +kernel
theorem dX3_pour_86 : decode cX3_pour 86 = .ok (.invokevirtual 93, 3) := by decide +kernel
theorem dX3_pour_89 : decode cX3_pour 89 = .ok (.aload_n 3, 1) := by decide +kernel
theorem dX3_pour_90 : decode cX3_pour 90 = .ok (.getfield 96, 3) := by decide +kernel
theorem dX3_pour_93 : decode cX3_pour 93 = .ok (.ireturn, 1) := by decide +kernel
set_option maxRecDepth 20000 in
theorem ggX3_scoop_X3_existingChurn : GoodIn wsX3_scoop wsX3_existingChurn := goodIn_ca (goodIn_r _ [7, 8, 9, 10, 35, 36, 37, 38, 39, 40, 41, 42, 43, 44, 45] (by decide +kernel) (by decide +kernel)) (goodIn_sub (fun _ h => List.mem_cons_of_mem _ (List.mem_append_right _ h)) (by decide +kernel))
set_option maxRecDepth 20000 in
theorem gX3_scoop_X3_existingChurn : GoodIn wsX3_scoop (wsV RX3 65 RX3 yX3_existingChurn wsX3_existingChurn) := goodIn_app (goodIn_of _ (by decide +kernel)) ggX3_scoop_X3_existingChurn
set_option maxRecDepth 20000 in
theorem ggX3_scoop_X3_existingTub : GoodIn wsX3_scoop wsX3_existingTub := goodIn_ca (goodIn_r _ [14, 8, 9, 10, 35, 36, 37, 38, 39, 40, 41, 42, 43, 44, 45] (by decide +kernel) (by decide +kernel)) (goodIn_sub (fun _ h => List.mem_cons_of_mem _ (List.mem_append_right _ h)) (by decide +kernel))
set_option maxRecDepth 20000 in
theorem gX3_scoop_X3_existingTub : GoodIn wsX3_scoop (wsV RX3 99 RX3 yX3_existingTub wsX3_existingTub) := goodIn_app (goodIn_of _ (by decide +kernel)) ggX3_scoop_X3_existingTub
set_option maxRecDepth 20000 in
theorem ggX3_scoop_X2_take : GoodIn wsX3_scoop wsX2_take := goodIn_r _ [19, 20, 21, 22, 23, 24, 25, 26, 27, 28, 32, 33, 34] (by decide +kernel) (by decide +kernel)
set_option maxRecDepth 20000 in
theorem gX3_scoop_X2_take : GoodIn wsX3_scoop (wsV RX3 105 RX2 yX2_take wsX2_take) := goodIn_app (goodIn_of _ (by decide +kernel)) ggX3_scoop_X2_take
theorem dX3_scoop_0 : decode cX3_scoop 0 = .ok (.aload_n 0, 1) := by decide +kernel
theorem dX3_scoop_1 : decode cX3_scoop 1 = .ok (.iload_n 1, 1) := by decide +kernel
theorem dX3_scoop_2 : decode cX3_scoop 2 = .ok (.invokevirtual 65, 3) := by decide +kernel
theorem dX3_scoop_5 : decode cX3_scoop 5 = .ok (.astore_n 3, 1) := by decide +kernel
theorem dX3_scoop_6 : decode cX3_scoop 6 = .ok (.aload_n 0, 1) := by decide +kernel
theorem dX3_scoop_7 : decode cX3_scoop 7 = .ok (.iload_n 2, 1) := by decide +kernel
theorem dX3_scoop_8 : decode cX3_scoop 8 = .ok (.invokevirtual 99, 3) := by decide +kernel
theorem dX3_scoop_11 : decode cX3_scoop 11 = .ok (.astore 4, 2) := by decide +kernel
theorem dX3_scoop_13 : decode cX3_scoop 13 = .ok (.aload_n 3, 1) := by decide +kernel
theorem dX3_scoop_14 : decode cX3_scoop 14 = .ok (.getfield 88, 3) := by decide +kernel
theorem dX3_scoop_17 : decode cX3_scoop 17 = .ok (.ifCond .eq 12, 3) := by decide +kernel
theorem dX3_scoop_20 : decode cX3_scoop 20 = .ok (.aload_n 3, 1) := by decide +kernel
theorem dX3_scoop_21 : decode cX3_scoop 21 = .ok (.getfield 96, 3) := by decide +kernel
theorem dX3_scoop_24 : decode cX3_scoop 24 = .ok (.bipush 50, 2) := by decide +kernel
theorem dX3_scoop_26 : decode cX3_scoop 26 = .ok (.if_icmp .ge 13, 3) := by decide +kernel
theorem dX3_scoop_29 : decode cX3_scoop 29 = .ok (.new 55, 3) := by decide +kernel
theorem dX3_scoop_32 : decode cX3_scoop 32 = .ok (.dup, 1) := by decide +kernel
theorem dX3_scoop_33 : decode cX3_scoop 33 = .ok (.ldc 103, 2) := by decide +kernel
theorem dX3_scoop_35 : decode cX3_scoop 35 = .ok (.invokespecial 59, 3) := by decide +kernel
theorem dX3_scoop_38 : decode cX3_scoop 38 = .ok (.athrow, 1) := by decide +kernel
theorem dX3_scoop_39 : decode cX3_scoop 39 = .ok (.aload 4, 2) := by decide +kernel
theorem dX3_scoop_41 : decode cX3_scoop 41 = .ok (.aload_n 3, 1) := by decide +kernel
theorem dX3_scoop_42 : decode cX3_scoop 42 = .ok (.getfield 88, 3) := by decide +kernel
theorem dX3_scoop_45 : decode cX3_scoop 45 = .ok (.aload_n 3, 1) := by decide +kernel
theorem dX3_scoop_46 : decode cX3_scoop 46 = .ok (.getfield 96, 3) := by decide +kernel
theorem dX3_scoop_49 : decode cX3_scoop 49 = .ok (.invokevirtual 105, 3) := by decide +kernel
theorem dX3_scoop_52 : decode cX3_scoop 52 = .ok (.aload_n 3, 1) := by decide +kernel
theorem dX3_scoop_53 : decode cX3_scoop 53 = .ok (.iconst 0, 1) := by decide +kernel
theorem dX3_scoop_54 : decode cX3_scoop 54 = .ok (.putfield 88, 3) := by decide +kernel
theorem dX3_scoop_57 : decode cX3_scoop 57 = .ok (.aload_n 3, 1) := by decide +kernel
theorem dX3_scoop_58 : decode cX3_scoop 58 = .ok (.iconst 0, 1) := by decide +kernel
theorem dX3_scoop_59 : decode cX3_scoop 59 = .ok (.putfield 96, 3) := by decide +kernel
theorem dX3_scoop_62 : decode cX3_scoop 62 = .ok (.aload 4, 2) := by decide +kernel
theorem dX3_scoop_64 : decode cX3_scoop 64 = .ok (.getfield 111, 3) := by decide +kernel
theorem dX3_scoop_67 : decode cX3_scoop 67 = .ok (.ireturn, 1) := by decide +kernel
set_option maxRecDepth 20000 in
theorem ggX3_told_X3_existingChurn : GoodIn wsX3_told wsX3_existingChurn := goodIn_ca (goodIn_r _ [7, 1, 2, 8, 17, 18, 19, 20, 21, 22, 23, 24, 25, 26, 27] (by decide +kernel) (by decide +kernel)) (goodIn_sub (fun _ h => List.mem_cons_of_mem _ (List.mem_append_right _ h)) (by decide +kernel))
set_option maxRecDepth 20000 in
theorem gX3_told_X3_existingChurn : GoodIn wsX3_told (wsV RX3 65 RX3 yX3_existingChurn wsX3_existingChurn) := goodIn_app (goodIn_of _ (by decide +kernel)) ggX3_told_X3_existingChurn
set_option maxRecDepth 20000 in
theorem ggX3_told_X1_number : GoodIn wsX3_told wsX1_number := goodIn_r _ [13, 14, 15, 16, 28, 29, 30] (by decide +kernel) (by decide +kernel)
set_option maxRecDepth 20000 in
theorem gX3_told_X1_number : GoodIn wsX3_told (wsV RX3 116 RX1 yX1_number wsX1_number) := goodIn_app (goodIn_of _ (by decide +kernel)) ggX3_told_X1_number
theorem dX3_told_0 : decode cX3_told 0 = .ok (.aload_n 0, 1) := by decide +kernel
theorem dX3_told_1 : decode cX3_told 1 = .ok (.iload_n 1, 1) := by decide +kernel
theorem dX3_told_2 : decode cX3_told 2 = .ok (.invokevirtual 65, 3) := by decide +kernel
theorem dX3_told_5 : decode cX3_told 5 = .ok (.astore_n 3, 1) := by decide +kernel
theorem dX3_told_6 : decode cX3_told 6 = .ok (.iload_n 2, 1) := by decide +kernel
theorem dX3_told_7 : decode cX3_told 7 = .ok (.ifCond .lt 8, 3) := by decide +kernel
theorem dX3_told_10 : decode cX3_told 10 = .ok (.iload_n 2, 1) := by decide +kernel
theorem dX3_told_11 : decode cX3_told 11 = .ok (.iconst 3, 1) := by decide +kernel
theorem dX3_told_12 : decode cX3_told 12 = .ok (.if_icmp .lt 13, 3) := by decide +kernel
theorem dX3_told_15 : decode cX3_told 15 = .ok (.new 19, 3) := by decide +kernel
theorem dX3_told_18 : decode cX3_told 18 = .ok (.dup, 1) := by decide +kernel
theorem dX3_told_19 : decode cX3_told 19 = .ok (.ldc 114, 2) := by decide +kernel
theorem dX3_told_21 : decode cX3_told 21 = .ok (.invokespecial 23, 3) := by decide +kernel
theorem dX3_told_24 : decode cX3_told 24 = .ok (.athrow, 1) := by decide +kernel
theorem dX3_told_25 : decode cX3_told 25 = .ok (.aload_n 3, 1) := by decide +kernel
theorem dX3_told_26 : decode cX3_told 26 = .ok (.iload_n 2, 1) := by decide +kernel
theorem dX3_told_27 : decode cX3_told 27 = .ok (.invokevirtual 116, 3) := by decide +kernel
theorem dX3_told_30 : decode cX3_told 30 = .ok (.ireturn, 1) := by decide +kernel
set_option maxRecDepth 20000 in
theorem ggX3_about_X3_existingTub : GoodIn wsX3_about wsX3_existingTub := goodIn_ca (goodIn_r _ [7, 1, 2, 8, 17, 18, 19, 20, 21, 22, 23, 24, 25, 26, 27] (by decide +kernel) (by decide +kernel)) (goodIn_sub (fun _ h => List.mem_cons_of_mem _ (List.mem_append_right _ h)) (by decide +kernel))
set_option maxRecDepth 20000 in
theorem gX3_about_X3_existingTub : GoodIn wsX3_about (wsV RX3 99 RX3 yX3_existingTub wsX3_existingTub) := goodIn_app (goodIn_of _ (by decide +kernel)) ggX3_about_X3_existingTub
set_option maxRecDepth 20000 in
theorem ggX3_about_X2_number : GoodIn wsX3_about wsX2_number := goodIn_r _ [13, 14, 15, 16, 28, 29, 30] (by decide +kernel) (by decide +kernel)
set_option maxRecDepth 20000 in
theorem gX3_about_X2_number : GoodIn wsX3_about (wsV RX3 120 RX2 yX2_number wsX2_number) := goodIn_app (goodIn_of _ (by decide +kernel)) ggX3_about_X2_number
theorem dX3_about_0 : decode cX3_about 0 = .ok (.aload_n 0, 1) := by decide +kernel
theorem dX3_about_1 : decode cX3_about 1 = .ok (.iload_n 1, 1) := by decide +kernel
theorem dX3_about_2 : decode cX3_about 2 = .ok (.invokevirtual 99, 3) := by decide +kernel
theorem dX3_about_5 : decode cX3_about 5 = .ok (.astore_n 3, 1) := by decide +kernel
theorem dX3_about_6 : decode cX3_about 6 = .ok (.iload_n 2, 1) := by decide +kernel
theorem dX3_about_7 : decode cX3_about 7 = .ok (.ifCond .lt 8, 3) := by decide +kernel
theorem dX3_about_10 : decode cX3_about 10 = .ok (.iload_n 2, 1) := by decide +kernel
theorem dX3_about_11 : decode cX3_about 11 = .ok (.iconst 3, 1) := by decide +kernel
theorem dX3_about_12 : decode cX3_about 12 = .ok (.if_icmp .lt 13, 3) := by decide +kernel
theorem dX3_about_15 : decode cX3_about 15 = .ok (.new 19, 3) := by decide +kernel
theorem dX3_about_18 : decode cX3_about 18 = .ok (.dup, 1) := by decide +kernel
theorem dX3_about_19 : decode cX3_about 19 = .ok (.ldc 114, 2) := by decide +kernel
theorem dX3_about_21 : decode cX3_about 21 = .ok (.invokespecial 23, 3) := by decide +kernel
theorem dX3_about_24 : decode cX3_about 24 = .ok (.athrow, 1) := by decide +kernel
theorem dX3_about_25 : decode cX3_about 25 = .ok (.aload_n 3, 1) := by decide +kernel
theorem dX3_about_26 : decode cX3_about 26 = .ok (.iload_n 2, 1) := by decide +kernel
theorem dX3_about_27 : decode cX3_about 27 = .ok (.invokevirtual 120, 3) := by decide +kernel
theorem dX3_about_30 : decode cX3_about 30 = .ok (.ireturn, 1) := by decide +kernel
set_option maxRecDepth 20000 in
theorem ggX3_count_X0_number : GoodIn wsX3_count wsX0_number := goodIn_r _ [8, 9, 10, 11, 12, 13, 14, 15, 7, 16, 17, 18, 19, 20, 21, 22, 23, 24, 25, 26, 27, 28, 29, 30, 31, 34, 35, 36, 37, 38, 39, 40, 41, 42, 43, 44, 45] (by decide +kernel) (by decide +kernel)
set_option maxRecDepth 20000 in
theorem gX3_count_X0_number : GoodIn wsX3_count (wsV RX3 123 RX0 yX0_number wsX0_number) := goodIn_app (goodIn_of _ (by decide +kernel)) ggX3_count_X0_number
theorem dX3_count_0 : decode cX3_count 0 = .ok (.iload_n 1, 1) := by decide +kernel
theorem dX3_count_1 : decode cX3_count 1 = .ok (.ifCond .lt 9, 3) := by decide +kernel
theorem dX3_count_4 : decode cX3_count 4 = .ok (.iload_n 1, 1) := by decide +kernel
theorem dX3_count_5 : decode cX3_count 5 = .ok (.bipush 10, 2) := by decide +kernel
theorem dX3_count_7 : decode cX3_count 7 = .ok (.if_icmp .lt 13, 3) := by decide +kernel
theorem dX3_count_10 : decode cX3_count 10 = .ok (.new 19, 3) := by decide +kernel
theorem dX3_count_13 : decode cX3_count 13 = .ok (.dup, 1) := by decide +kernel
theorem dX3_count_14 : decode cX3_count 14 = .ok (.ldc 121, 2) := by decide +kernel
theorem dX3_count_16 : decode cX3_count 16 = .ok (.invokespecial 23, 3) := by decide +kernel
theorem dX3_count_19 : decode cX3_count 19 = .ok (.athrow, 1) := by decide +kernel
theorem dX3_count_20 : decode cX3_count 20 = .ok (.aload_n 0, 1) := by decide +kernel
theorem dX3_count_21 : decode cX3_count 21 = .ok (.getfield 10, 3) := by decide +kernel
theorem dX3_count_24 : decode cX3_count 24 = .ok (.iload_n 1, 1) := by decide +kernel
theorem dX3_count_25 : decode cX3_count 25 = .ok (.invokevirtual 123, 3) := by decide +kernel
theorem dX3_count_28 : decode cX3_count 28 = .ok (.ireturn, 1) := by decide +kernel
set_option maxRecDepth 20000 in
theorem ggX3_next_X0_sellingTub : GoodIn wsX3_next wsX0_sellingTub := goodIn_r _ [6, 7, 8, 11, 12, 13, 14, 15, 16, 17, 18, 19, 20, 21, 22] (by decide +kernel) (by decide +kernel)
set_option maxRecDepth 20000 in
theorem gX3_next_X0_sellingTub : GoodIn wsX3_next (wsV RX3 124 RX0 yX0_sellingTub wsX0_sellingTub) := goodIn_app (goodIn_of _ (by decide +kernel)) ggX3_next_X0_sellingTub
theorem dX3_next_0 : decode cX3_next 0 = .ok (.aload_n 0, 1) := by decide +kernel
theorem dX3_next_1 : decode cX3_next 1 = .ok (.getfield 10, 3) := by decide +kernel
end
section
theorem dX3_next_4 : decode cX3_next 4 = .ok (.invokevirtual 124, 3) := by decide +kernel
theorem dX3_next_7 : decode cX3_next 7 = .ok (.ireturn, 1) := by decide +kernel
set_option maxRecDepth 20000 in
theorem ggX3_pass_X3_checkHours : GoodIn wsX3_pass wsX3_checkHours := goodIn_ca (goodIn_r _ [5, 6, 7] (by decide +kernel) (by decide +kernel)) (goodIn_sub (fun _ h => List.mem_cons_of_mem _ (List.mem_append_right _ h)) (by decide +kernel))
set_option maxRecDepth 20000 in
theorem gX3_pass_X3_checkHours : GoodIn wsX3_pass (va_wsS RX3 128 yX3_checkHours wsX3_checkHours) := goodIn_app (goodIn_of _ (by decide +kernel)) ggX3_pass_X3_checkHours
set_option maxRecDepth 20000 in
theorem ggX3_pass_X0_runHours : GoodIn wsX3_pass wsX0_runHours := goodIn_r _ [12, 13, 14, 15, 11, 16, 17, 18, 19, 20, 21, 22, 23, 24, 25, 26, 27, 28, 29, 30, 31, 32, 33, 34, 35, 36, 37, 38, 39, 40, 4, 41, 42, 43, 44, 45, 46, 47, 48, 49, 50, 51, 52, 53, 54, 55, 56, 57, 58, 59, 60, 61, 62, 63, 64, 65, 66, 67, 68, 69, 70, 71, 72, 73, 74, 75, 76, 77, 78, 79, 80, 81, 82, 83, 84, 87, 88, 89, 90, 91, 92, 93, 94, 95, 96, 97, 98, 99, 100, 101] (by decide +kernel) (by decide +kernel)
set_option maxRecDepth 20000 in
theorem gX3_pass_X0_runHours : GoodIn wsX3_pass (wsV RX3 134 RX0 yX0_runHours wsX0_runHours) := goodIn_app (goodIn_of _ (by decide +kernel)) ggX3_pass_X0_runHours
theorem dX3_pass_0 : decode cX3_pass 0 = .ok (.iload_n 1, 1) := by decide +kernel
theorem dX3_pass_1 : decode cX3_pass 1 = .ok (.invokestatic 128, 3) := by decide +kernel
theorem dX3_pass_4 : decode cX3_pass 4 = .ok (.aload_n 0, 1) := by decide +kernel
theorem dX3_pass_5 : decode cX3_pass 5 = .ok (.getfield 10, 3) := by decide +kernel
theorem dX3_pass_8 : decode cX3_pass 8 = .ok (.getfield 131, 3) := by decide +kernel
theorem dX3_pass_11 : decode cX3_pass 11 = .ok (.istore_n 2, 1) := by decide +kernel
theorem dX3_pass_12 : decode cX3_pass 12 = .ok (.aload_n 0, 1) := by decide +kernel
theorem dX3_pass_13 : decode cX3_pass 13 = .ok (.getfield 10, 3) := by decide +kernel
theorem dX3_pass_16 : decode cX3_pass 16 = .ok (.iload_n 1, 1) := by decide +kernel
theorem dX3_pass_17 : decode cX3_pass 17 = .ok (.invokevirtual 134, 3) := by decide +kernel
theorem dX3_pass_20 : decode cX3_pass 20 = .ok (.aload_n 0, 1) := by decide +kernel
theorem dX3_pass_21 : decode cX3_pass 21 = .ok (.getfield 10, 3) := by decide +kernel
theorem dX3_pass_24 : decode cX3_pass 24 = .ok (.getfield 131, 3) := by decide +kernel
theorem dX3_pass_27 : decode cX3_pass 27 = .ok (.iload_n 2, 1) := by decide +kernel
theorem dX3_pass_28 : decode cX3_pass 28 = .ok (.isub, 1) := by decide +kernel
theorem dX3_pass_29 : decode cX3_pass 29 = .ok (.ireturn, 1) := by decide +kernel
set_option maxRecDepth 20000 in
theorem ggX3_done_X3_existingChurn : GoodIn wsX3_done wsX3_existingChurn := goodIn_ca (goodIn_r _ [6, 7, 8, 1, 35, 36, 37, 38, 39, 40, 41, 42, 43, 44, 45] (by decide +kernel) (by decide +kernel)) (goodIn_sub (fun _ h => List.mem_cons_of_mem _ (List.mem_append_right _ h)) (by decide +kernel))
set_option maxRecDepth 20000 in
theorem gX3_done_X3_existingChurn : GoodIn wsX3_done (wsV RX3 65 RX3 yX3_existingChurn wsX3_existingChurn) := goodIn_app (goodIn_of _ (by decide +kernel)) ggX3_done_X3_existingChurn
set_option maxRecDepth 20000 in
theorem ggX3_done_X0_hoursUntilFirm : GoodIn wsX3_done wsX0_hoursUntilFirm := goodIn_r _ [13, 14, 15, 5, 16, 17, 18, 19, 20, 21, 22, 23, 12, 24, 25, 26, 27, 28, 29, 30, 31, 32, 33, 34, 46, 47, 48, 37, 38, 39, 40, 41, 42, 43, 44, 45] (by decide +kernel) (by decide +kernel)
set_option maxRecDepth 20000 in
theorem gX3_done_X0_hoursUntilFirm : GoodIn wsX3_done (wsV RX3 137 RX0 yX0_hoursUntilFirm wsX0_hoursUntilFirm) := goodIn_app (goodIn_of _ (by decide +kernel)) ggX3_done_X0_hoursUntilFirm
theorem dX3_done_0 : decode cX3_done 0 = .ok (.aload_n 0, 1) := by decide +kernel
theorem dX3_done_1 : decode cX3_done 1 = .ok (.getfield 10, 3) := by decide +kernel
theorem dX3_done_4 : decode cX3_done 4 = .ok (.aload_n 0, 1) := by decide +kernel
theorem dX3_done_5 : decode cX3_done 5 = .ok (.iload_n 1, 1) := by decide +kernel
theorem dX3_done_6 : decode cX3_done 6 = .ok (.invokevirtual 65, 3) := by decide +kernel
theorem dX3_done_9 : decode cX3_done 9 = .ok (.invokevirtual 137, 3) := by decide +kernel
theorem dX3_done_12 : decode cX3_done 12 = .ok (.ireturn, 1) := by decide +kernel
set_option maxRecDepth 20000 in
theorem ggX3_foresee_X3_checkHours : GoodIn wsX3_foresee wsX3_checkHours := goodIn_ca (goodIn_r _ [8, 9, 10] (by decide +kernel) (by decide +kernel)) (goodIn_sub (fun _ h => List.mem_cons_of_mem _ (List.mem_append_right _ h)) (by decide +kernel))
set_option maxRecDepth 20000 in
theorem gX3_foresee_X3_checkHours : GoodIn wsX3_foresee (va_wsS RX3 128 yX3_checkHours wsX3_checkHours) := goodIn_app (goodIn_of _ (by decide +kernel)) ggX3_foresee_X3_checkHours
set_option maxRecDepth 20000 in
theorem ggX3_foresee_X0_copyFrom : GoodIn wsX3_foresee wsX0_copyFrom := goodIn_r _ [15, 16, 17, 18, 19, 20, 21, 22, 23, 24, 25, 26, 27, 28, 29, 30, 31, 32, 33, 34, 35, 36, 37, 38, 39, 40, 41, 42, 43, 44, 118, 119, 120, 121, 122, 123, 124, 125, 126, 127, 128, 129, 130, 131, 132] (by decide +kernel) (by decide +kernel)
set_option maxRecDepth 20000 in
theorem gX3_foresee_X0_copyFrom : GoodIn wsX3_foresee (wsV RX3 143 RX0 yX0_copyFrom wsX0_copyFrom) := goodIn_app (goodIn_of _ (by decide +kernel)) ggX3_foresee_X0_copyFrom
set_option maxRecDepth 20000 in
theorem ggX3_foresee_X0_runHours : GoodIn wsX3_foresee wsX0_runHours := goodIn_r _ [48, 49, 50, 51, 14, 52, 26, 24, 22, 25, 23, 16, 53, 54, 55, 56, 21, 57, 58, 59, 60, 61, 62, 63, 32, 64, 35, 36, 34, 65, 7, 66, 67, 68, 69, 70, 71, 72, 73, 74, 75, 76, 77, 78, 40, 79, 42, 43, 80, 81, 82, 83, 84, 85, 86, 87, 88, 89, 28, 27, 90, 91, 92, 93, 94, 95, 96, 97, 44, 98, 99, 100, 101, 102, 103, 118, 119, 120, 121, 122, 123, 124, 125, 126, 127, 128, 129, 130, 131, 132] (by decide +kernel) (by decide +kernel)
set_option maxRecDepth 20000 in
theorem gX3_foresee_X0_runHours : GoodIn wsX3_foresee (wsV RX3 134 RX0 yX0_runHours wsX0_runHours) := goodIn_app (goodIn_of _ (by decide +kernel)) ggX3_foresee_X0_runHours
set_option maxRecDepth 20000 in
theorem ggX3_foresee_X0_number : GoodIn wsX3_foresee wsX0_number := goodIn_r _ [107, 26, 16, 27, 28, 53, 54, 55, 14, 56, 21, 57, 58, 59, 60, 108, 109, 110, 111, 25, 23, 112, 113, 114, 115, 118, 119, 120, 121, 122, 123, 124, 125, 126, 130, 131, 132] (by decide +kernel) (by decide +kernel)
set_option maxRecDepth 20000 in
theorem gX3_foresee_X0_number : GoodIn wsX3_foresee (wsV RX3 123 RX0 yX0_number wsX0_number) := goodIn_app (goodIn_of _ (by decide +kernel)) ggX3_foresee_X0_number
theorem dX3_foresee_0 : decode cX3_foresee 0 = .ok (.iload_n 1, 1) := by decide +kernel
theorem dX3_foresee_1 : decode cX3_foresee 1 = .ok (.invokestatic 128, 3) := by decide +kernel
theorem dX3_foresee_4 : decode cX3_foresee 4 = .ok (.iload_n 2, 1) := by decide +kernel
theorem dX3_foresee_5 : decode cX3_foresee 5 = .ok (.iconst 2, 1) := by decide +kernel
theorem dX3_foresee_6 : decode cX3_foresee 6 = .ok (.if_icmp .eq 25, 3) := by decide +kernel
theorem dX3_foresee_9 : decode cX3_foresee 9 = .ok (.iload_n 2, 1) := by decide +kernel
theorem dX3_foresee_10 : decode cX3_foresee 10 = .ok (.bipush 6, 2) := by decide +kernel
theorem dX3_foresee_12 : decode cX3_foresee 12 = .ok (.if_icmp .lt 9, 3) := by decide +kernel
theorem dX3_foresee_15 : decode cX3_foresee 15 = .ok (.iload_n 2, 1) := by decide +kernel
theorem dX3_foresee_16 : decode cX3_foresee 16 = .ok (.bipush 10, 2) := by decide +kernel
theorem dX3_foresee_18 : decode cX3_foresee 18 = .ok (.if_icmp .lt 13, 3) := by decide +kernel
theorem dX3_foresee_21 : decode cX3_foresee 21 = .ok (.new 19, 3) := by decide +kernel
theorem dX3_foresee_24 : decode cX3_foresee 24 = .ok (.dup, 1) := by decide +kernel
theorem dX3_foresee_25 : decode cX3_foresee 25 = .ok (.ldc 141, 2) := by decide +kernel
theorem dX3_foresee_27 : decode cX3_foresee 27 = .ok (.invokespecial 23, 3) := by decide +kernel
theorem dX3_foresee_30 : decode cX3_foresee 30 = .ok (.athrow, 1) := by decide +kernel
theorem dX3_foresee_31 : decode cX3_foresee 31 = .ok (.aload_n 0, 1) := by decide +kernel
theorem dX3_foresee_32 : decode cX3_foresee 32 = .ok (.getfield 16, 3) := by decide +kernel
theorem dX3_foresee_35 : decode cX3_foresee 35 = .ok (.aload_n 0, 1) := by decide +kernel
theorem dX3_foresee_36 : decode cX3_foresee 36 = .ok (.getfield 10, 3) := by decide +kernel
theorem dX3_foresee_39 : decode cX3_foresee 39 = .ok (.invokevirtual 143, 3) := by decide +kernel
theorem dX3_foresee_42 : decode cX3_foresee 42 = .ok (.aload_n 0, 1) := by decide +kernel
theorem dX3_foresee_43 : decode cX3_foresee 43 = .ok (.getfield 16, 3) := by decide +kernel
theorem dX3_foresee_46 : decode cX3_foresee 46 = .ok (.iload_n 1, 1) := by decide +kernel
theorem dX3_foresee_47 : decode cX3_foresee 47 = .ok (.invokevirtual 134, 3) := by decide +kernel
theorem dX3_foresee_50 : decode cX3_foresee 50 = .ok (.aload_n 0, 1) := by decide +kernel
theorem dX3_foresee_51 : decode cX3_foresee 51 = .ok (.getfield 16, 3) := by decide +kernel
theorem dX3_foresee_54 : decode cX3_foresee 54 = .ok (.iload_n 2, 1) := by decide +kernel
theorem dX3_foresee_55 : decode cX3_foresee 55 = .ok (.invokevirtual 123, 3) := by decide +kernel
theorem dX3_foresee_58 : decode cX3_foresee 58 = .ok (.ireturn, 1) := by decide +kernel
set_option maxRecDepth 20000 in
theorem ggX3_lasts_X0_hoursUntilNoIce : GoodIn wsX3_lasts wsX0_hoursUntilNoIce := goodIn_r _ [6, 7, 8, 9, 10, 11, 5, 12, 13, 14, 15, 16, 17, 18, 19, 20, 21, 22, 23, 24, 27, 28, 29, 30, 31, 32, 33, 34, 35] (by decide +kernel) (by decide +kernel)
set_option maxRecDepth 20000 in
theorem gX3_lasts_X0_hoursUntilNoIce : GoodIn wsX3_lasts (wsV RX3 147 RX0 yX0_hoursUntilNoIce wsX0_hoursUntilNoIce) := goodIn_app (goodIn_of _ (by decide +kernel)) ggX3_lasts_X0_hoursUntilNoIce
theorem dX3_lasts_0 : decode cX3_lasts 0 = .ok (.aload_n 0, 1) := by decide +kernel
theorem dX3_lasts_1 : decode cX3_lasts 1 = .ok (.getfield 10, 3) := by decide +kernel
theorem dX3_lasts_4 : decode cX3_lasts 4 = .ok (.invokevirtual 147, 3) := by decide +kernel
theorem dX3_lasts_7 : decode cX3_lasts 7 = .ok (.ireturn, 1) := by decide +kernel
set_option maxRecDepth 20000 in
theorem ggX3_salt_X3_existingChurn : GoodIn wsX3_salt wsX3_existingChurn := goodIn_ca (goodIn_r _ [12, 13, 14, 15, 27, 28, 29, 30, 31, 32, 33, 34, 35, 36, 37] (by decide +kernel) (by decide +kernel)) (goodIn_sub (fun _ h => List.mem_cons_of_mem _ (List.mem_append_left _ (List.mem_append_right _ h))) (by decide +kernel))
set_option maxRecDepth 20000 in
theorem gX3_salt_X3_existingChurn : GoodIn wsX3_salt (wsV RX3 65 RX3 yX3_existingChurn wsX3_existingChurn) := goodIn_app (goodIn_of _ (by decide +kernel)) ggX3_salt_X3_existingChurn
set_option maxRecDepth 20000 in
theorem ggX3_salt_X3_checkPacked : GoodIn wsX3_salt wsX3_checkPacked := goodIn_ca (goodIn_r _ [18, 19, 20] (by decide +kernel) (by decide +kernel)) (goodIn_sub (fun _ h => List.mem_cons_of_mem _ (List.mem_append_right _ h)) (by decide +kernel))
set_option maxRecDepth 20000 in
theorem gX3_salt_X3_checkPacked : GoodIn wsX3_salt (va_wsS RX3 69 yX3_checkPacked wsX3_checkPacked) := goodIn_app (goodIn_of _ (by decide +kernel)) ggX3_salt_X3_checkPacked
set_option maxRecDepth 20000 in
theorem ggX3_salt_X3_coldOfIce : GoodIn wsX3_salt wsX3_coldOfIce := goodIn_r _ [23] (by decide +kernel) (by decide +kernel)
set_option maxRecDepth 20000 in
theorem gX3_salt_X3_coldOfIce : GoodIn wsX3_salt (va_wsS RX3 150 yX3_coldOfIce wsX3_coldOfIce) := goodIn_app (goodIn_of _ (by decide +kernel)) ggX3_salt_X3_coldOfIce
theorem dX3_salt_0 : decode cX3_salt 0 = .ok (.aload_n 0, 1) := by decide +kernel
theorem dX3_salt_1 : decode cX3_salt 1 = .ok (.iload_n 1, 1) := by decide +kernel
theorem dX3_salt_2 : decode cX3_salt 2 = .ok (.invokevirtual 65, 3) := by decide +kernel
theorem dX3_salt_5 : decode cX3_salt 5 = .ok (.astore_n 3, 1) := by decide +kernel
theorem dX3_salt_6 : decode cX3_salt 6 = .ok (.iload_n 2, 1) := by decide +kernel
theorem dX3_salt_7 : decode cX3_salt 7 = .ok (.invokestatic 69, 3) := by decide +kernel
theorem dX3_salt_10 : decode cX3_salt 10 = .ok (.iload_n 2, 1) := by decide +kernel
theorem dX3_salt_11 : decode cX3_salt 11 = .ok (.invokestatic 150, 3) := by decide +kernel
theorem dX3_salt_14 : decode cX3_salt 14 = .ok (.istore 4, 2) := by decide +kernel
theorem dX3_salt_16 : decode cX3_salt 16 = .ok (.iconst 0, 1) := by decide +kernel
theorem dX3_salt_17 : decode cX3_salt 17 = .ok (.bipush 30, 2) := by decide +kernel
theorem dX3_salt_19 : decode cX3_salt 19 = .ok (.aload_n 3, 1) := by decide +kernel
theorem dX3_salt_20 : decode cX3_salt 20 = .ok (.getfield 75, 3) := by decide +kernel
theorem dX3_salt_23 : decode cX3_salt 23 = .ok (.isub, 1) := by decide +kernel
theorem dX3_salt_24 : decode cX3_salt 24 = .ok (.iload 4, 2) := by decide +kernel
theorem dX3_salt_26 : decode cX3_salt 26 = .ok (.isub, 1) := by decide +kernel
theorem dX3_salt_27 : decode cX3_salt 27 = .ok (.invokestatic 153, 3) := by decide +kernel
theorem dX3_salt_30 : decode cX3_salt 30 = .ok (.istore 5, 2) := by decide +kernel
theorem dX3_salt_32 : decode cX3_salt 32 = .ok (.iload 5, 2) := by decide +kernel
theorem dX3_salt_34 : decode cX3_salt 34 = .ok (.iconst 2, 1) := by decide +kernel
theorem dX3_salt_35 : decode cX3_salt 35 = .ok (.iload 4, 2) := by decide +kernel
theorem dX3_salt_37 : decode cX3_salt 37 = .ok (.imul, 1) := by decide +kernel
theorem dX3_salt_38 : decode cX3_salt 38 = .ok (.invokestatic 38, 3) := by decide +kernel
theorem dX3_salt_41 : decode cX3_salt 41 = .ok (.ireturn, 1) := by decide +kernel
set_option maxRecDepth 20000 in
theorem ggX3_share_X0_soldScoops : GoodIn wsX3_share wsX0_soldScoops := goodIn_r _ [6, 7, 8, 11, 12, 13, 14, 15, 16, 17, 18, 19, 20, 21, 22] (by decide +kernel) (by decide +kernel)
set_option maxRecDepth 20000 in
theorem gX3_share_X0_soldScoops : GoodIn wsX3_share (wsV RX3 156 RX0 yX0_soldScoops wsX0_soldScoops) := goodIn_app (goodIn_of _ (by decide +kernel)) ggX3_share_X0_soldScoops
theorem dX3_share_0 : decode cX3_share 0 = .ok (.aload_n 0, 1) := by decide +kernel
theorem dX3_share_1 : decode cX3_share 1 = .ok (.getfield 10, 3) := by decide +kernel
theorem dX3_share_4 : decode cX3_share 4 = .ok (.invokevirtual 156, 3) := by decide +kernel
theorem dX3_share_7 : decode cX3_share 7 = .ok (.istore_n 1, 1) := by decide +kernel
theorem dX3_share_8 : decode cX3_share 8 = .ok (.iload_n 1, 1) := by decide +kernel
theorem dX3_share_9 : decode cX3_share 9 = .ok (.aload_n 0, 1) := by decide +kernel
theorem dX3_share_10 : decode cX3_share 10 = .ok (.getfield 10, 3) := by decide +kernel
theorem dX3_share_13 : decode cX3_share 13 = .ok (.getfield 159, 3) := by decide +kernel
theorem dX3_share_16 : decode cX3_share 16 = .ok (.iadd, 1) := by decide +kernel
theorem dX3_share_17 : decode cX3_share 17 = .ok (.istore_n 2, 1) := by decide +kernel
theorem dX3_share_18 : decode cX3_share 18 = .ok (.iload_n 2, 1) := by decide +kernel
theorem dX3_share_19 : decode cX3_share 19 = .ok (.ifCond .ne 7, 3) := by decide +kernel
theorem dX3_share_22 : decode cX3_share 22 = .ok (.dconst 0, 1) := by decide +kernel
theorem dX3_share_23 : decode cX3_share 23 = .ok (.goto 8, 3) := by decide +kernel
theorem dX3_share_26 : decode cX3_share 26 = .ok (.iload_n 1, 1) := by decide +kernel
theorem dX3_share_27 : decode cX3_share 27 = .ok (.i2d, 1) := by decide +kernel
theorem dX3_share_28 : decode cX3_share 28 = .ok (.iload_n 2, 1) := by decide +kernel
theorem dX3_share_29 : decode cX3_share 29 = .ok (.i2d, 1) := by decide +kernel
theorem dX3_share_30 : decode cX3_share 30 = .ok (.ddiv, 1) := by decide +kernel
theorem dX3_share_31 : decode cX3_share 31 = .ok (.dreturn, 1) := by decide +kernel
set_option maxRecDepth 20000 in
theorem ggX3_digest_X0_number : GoodIn wsX3_digest wsX0_number := goodIn_r _ [7, 8, 9, 10, 11, 12, 13, 14, 6, 15, 16, 17, 18, 19, 20, 21, 22, 23, 24, 25, 26, 27, 28, 29, 30, 54, 55, 56, 57, 58, 59, 60, 61, 62, 63, 64, 65] (by decide +kernel) (by decide +kernel)
set_option maxRecDepth 20000 in
theorem gX3_digest_X0_number : GoodIn wsX3_digest (wsV RX3 123 RX0 yX0_number wsX0_number) := goodIn_app (goodIn_of _ (by decide +kernel)) ggX3_digest_X0_number
set_option maxRecDepth 20000 in
theorem ggX3_digest_X3_mixed : GoodIn wsX3_digest wsX3_mixed := goodIn_r _ [34, 35] (by decide +kernel) (by decide +kernel)
set_option maxRecDepth 20000 in
theorem gX3_digest_X3_mixed : GoodIn wsX3_digest (va_wsS RX3 164 yX3_mixed wsX3_mixed) := goodIn_app (goodIn_of _ (by decide +kernel)) ggX3_digest_X3_mixed
set_option maxRecDepth 20000 in
theorem ggX3_digest_X1_number : GoodIn wsX3_digest wsX1_number := goodIn_r _ [40, 41, 42, 43, 66, 67, 68] (by decide +kernel) (by decide +kernel)
set_option maxRecDepth 20000 in
theorem gX3_digest_X1_number : GoodIn wsX3_digest (wsV RX3 116 RX1 yX1_number wsX1_number) := goodIn_app (goodIn_of _ (by decide +kernel)) ggX3_digest_X1_number
set_option maxRecDepth 20000 in
theorem ggX3_digest_X2_number : GoodIn wsX3_digest wsX2_number := goodIn_r _ [48, 49, 50, 51, 63, 64, 65] (by decide +kernel) (by decide +kernel)
set_option maxRecDepth 20000 in
theorem gX3_digest_X2_number : GoodIn wsX3_digest (wsV RX3 120 RX2 yX2_number wsX2_number) := goodIn_app (goodIn_of _ (by decide +kernel)) ggX3_digest_X2_number
theorem dX3_digest_0 : decode cX3_digest 0 = .ok (.ldc2_w 162, 3) := by decide +kernel
theorem dX3_digest_3 : decode cX3_digest 3 = .ok (.lstore_n 1, 1) := by decide +kernel
theorem dX3_digest_4 : decode cX3_digest 4 = .ok (.iconst 0, 1) := by decide +kernel
theorem dX3_digest_5 : decode cX3_digest 5 = .ok (.istore_n 3, 1) := by decide +kernel
theorem dX3_digest_6 : decode cX3_digest 6 = .ok (.iload_n 3, 1) := by decide +kernel
theorem dX3_digest_7 : decode cX3_digest 7 = .ok (.bipush 10, 2) := by decide +kernel
theorem dX3_digest_9 : decode cX3_digest 9 = .ok (.if_icmp .ge 23, 3) := by decide +kernel
theorem dX3_digest_12 : decode cX3_digest 12 = .ok (.lload_n 1, 1) := by decide +kernel
theorem dX3_digest_13 : decode cX3_digest 13 = .ok (.aload_n 0, 1) := by decide +kernel
theorem dX3_digest_14 : decode cX3_digest 14 = .ok (.getfield 10, 3) := by decide +kernel
theorem dX3_digest_17 : decode cX3_digest 17 = .ok (.iload_n 3, 1) := by decide +kernel
theorem dX3_digest_18 : decode cX3_digest 18 = .ok (.invokevirtual 123, 3) := by decide +kernel
theorem dX3_digest_21 : decode cX3_digest 21 = .ok (.i2l, 1) := by decide +kernel
theorem dX3_digest_22 : decode cX3_digest 22 = .ok (.invokestatic 164, 3) := by decide +kernel
theorem dX3_digest_25 : decode cX3_digest 25 = .ok (.lstore_n 1, 1) := by decide +kernel
theorem dX3_digest_26 : decode cX3_digest 26 = .ok (.iinc 3 1, 3) := by decide +kernel
theorem dX3_digest_29 : decode cX3_digest 29 = .ok (.goto (-23), 3) := by decide +kernel
theorem dX3_digest_32 : decode cX3_digest 32 = .ok (.iconst 0, 1) := by decide +kernel
theorem dX3_digest_33 : decode cX3_digest 33 = .ok (.istore_n 3, 1) := by decide +kernel
theorem dX3_digest_34 : decode cX3_digest 34 = .ok (.iload_n 3, 1) := by decide +kernel
theorem dX3_digest_35 : decode cX3_digest 35 = .ok (.bipush 7, 2) := by decide +kernel
theorem dX3_digest_37 : decode cX3_digest 37 = .ok (.if_icmp .ge 24, 3) := by decide +kernel
theorem dX3_digest_40 : decode cX3_digest 40 = .ok (.lload_n 1, 1) := by decide +kernel
theorem dX3_digest_41 : decode cX3_digest 41 = .ok (.aload_n 0, 1) := by decide +kernel
theorem dX3_digest_42 : decode cX3_digest 42 = .ok (.getfield 10, 3) := by decide +kernel
theorem dX3_digest_45 : decode cX3_digest 45 = .ok (.getfield 48, 3) := by decide +kernel
theorem dX3_digest_48 : decode cX3_digest 48 = .ok (.iload_n 3, 1) := by decide +kernel
theorem dX3_digest_49 : decode cX3_digest 49 = .ok (.iaload, 1) := by decide +kernel
theorem dX3_digest_50 : decode cX3_digest 50 = .ok (.i2l, 1) := by decide +kernel
theorem dX3_digest_51 : decode cX3_digest 51 = .ok (.invokestatic 164, 3) := by decide +kernel
theorem dX3_digest_54 : decode cX3_digest 54 = .ok (.lstore_n 1, 1) := by decide +kernel
theorem dX3_digest_55 : decode cX3_digest 55 = .ok (.iinc 3 1, 3) := by decide +kernel
theorem dX3_digest_58 : decode cX3_digest 58 = .ok (.goto (-24), 3) := by decide +kernel
theorem dX3_digest_61 : decode cX3_digest 61 = .ok (.iconst 0, 1) := by decide +kernel
theorem dX3_digest_62 : decode cX3_digest 62 = .ok (.istore_n 3, 1) := by decide +kernel
theorem dX3_digest_63 : decode cX3_digest 63 = .ok (.iload_n 3, 1) := by decide +kernel
theorem dX3_digest_64 : decode cX3_digest 64 = .ok (.aload_n 0, 1) := by decide +kernel
theorem dX3_digest_65 : decode cX3_digest 65 = .ok (.getfield 10, 3) := by decide +kernel
theorem dX3_digest_68 : decode cX3_digest 68 = .ok (.getfield 51, 3) := by decide +kernel
theorem dX3_digest_71 : decode cX3_digest 71 = .ok (.if_icmp .ge 44, 3) := by decide +kernel
theorem dX3_digest_74 : decode cX3_digest 74 = .ok (.iconst 0, 1) := by decide +kernel
theorem dX3_digest_75 : decode cX3_digest 75 = .ok (.istore 4, 2) := by decide +kernel
theorem dX3_digest_77 : decode cX3_digest 77 = .ok (.iload 4, 2) := by decide +kernel
theorem dX3_digest_79 : decode cX3_digest 79 = .ok (.iconst 3, 1) := by decide +kernel
theorem dX3_digest_80 : decode cX3_digest 80 = .ok (.if_icmp .ge 29, 3) := by decide +kernel
theorem dX3_digest_83 : decode cX3_digest 83 = .ok (.lload_n 1, 1) := by decide +kernel
theorem dX3_digest_84 : decode cX3_digest 84 = .ok (.aload_n 0, 1) := by decide +kernel
theorem dX3_digest_85 : decode cX3_digest 85 = .ok (.getfield 10, 3) := by decide +kernel
theorem dX3_digest_88 : decode cX3_digest 88 = .ok (.getfield 168, 3) := by decide +kernel
theorem dX3_digest_91 : decode cX3_digest 91 = .ok (.iload_n 3, 1) := by decide +kernel
theorem dX3_digest_92 : decode cX3_digest 92 = .ok (.aaload, 1) := by decide +kernel
theorem dX3_digest_93 : decode cX3_digest 93 = .ok (.iload 4, 2) := by decide +kernel
theorem dX3_digest_95 : decode cX3_digest 95 = .ok (.invokevirtual 116, 3) := by decide +kernel
theorem dX3_digest_98 : decode cX3_digest 98 = .ok (.i2l, 1) := by decide +kernel
theorem dX3_digest_99 : decode cX3_digest 99 = .ok (.invokestatic 164, 3) := by decide +kernel
theorem dX3_digest_102 : decode cX3_digest 102 = .ok (.lstore_n 1, 1) := by decide +kernel
theorem dX3_digest_103 : decode cX3_digest 103 = .ok (.iinc 4 1, 3) := by decide +kernel
theorem dX3_digest_106 : decode cX3_digest 106 = .ok (.goto (-29), 3) := by decide +kernel
theorem dX3_digest_109 : decode cX3_digest 109 = .ok (.iinc 3 1, 3) := by decide +kernel
theorem dX3_digest_112 : decode cX3_digest 112 = .ok (.goto (-49), 3) := by decide +kernel
theorem dX3_digest_115 : decode cX3_digest 115 = .ok (.iconst 0, 1) := by decide +kernel
theorem dX3_digest_116 : decode cX3_digest 116 = .ok (.istore_n 3, 1) := by decide +kernel
theorem dX3_digest_117 : decode cX3_digest 117 = .ok (.iload_n 3, 1) := by decide +kernel
theorem dX3_digest_118 : decode cX3_digest 118 = .ok (.aload_n 0, 1) := by decide +kernel
theorem dX3_digest_119 : decode cX3_digest 119 = .ok (.getfield 10, 3) := by decide +kernel
theorem dX3_digest_122 : decode cX3_digest 122 = .ok (.getfield 60, 3) := by decide +kernel
theorem dX3_digest_125 : decode cX3_digest 125 = .ok (.if_icmp .ge 44, 3) := by decide +kernel
theorem dX3_digest_128 : decode cX3_digest 128 = .ok (.iconst 0, 1) := by decide +kernel
theorem dX3_digest_129 : decode cX3_digest 129 = .ok (.istore 4, 2) := by decide +kernel
theorem dX3_digest_131 : decode cX3_digest 131 = .ok (.iload 4, 2) := by decide +kernel
theorem dX3_digest_133 : decode cX3_digest 133 = .ok (.iconst 3, 1) := by decide +kernel
theorem dX3_digest_134 : decode cX3_digest 134 = .ok (.if_icmp .ge 29, 3) := by decide +kernel
theorem dX3_digest_137 : decode cX3_digest 137 = .ok (.lload_n 1, 1) := by decide +kernel
theorem dX3_digest_138 : decode cX3_digest 138 = .ok (.aload_n 0, 1) := by decide +kernel
theorem dX3_digest_139 : decode cX3_digest 139 = .ok (.getfield 10, 3) := by decide +kernel
theorem dX3_digest_142 : decode cX3_digest 142 = .ok (.getfield 172, 3) := by decide +kernel
theorem dX3_digest_145 : decode cX3_digest 145 = .ok (.iload_n 3, 1) := by decide +kernel
theorem dX3_digest_146 : decode cX3_digest 146 = .ok (.aaload, 1) := by decide +kernel
theorem dX3_digest_147 : decode cX3_digest 147 = .ok (.iload 4, 2) := by decide +kernel
theorem dX3_digest_149 : decode cX3_digest 149 = .ok (.invokevirtual 120, 3) := by decide +kernel
theorem dX3_digest_152 : decode cX3_digest 152 = .ok (.i2l, 1) := by decide +kernel
theorem dX3_digest_153 : decode cX3_digest 153 = .ok (.invokestatic 164, 3) := by decide +kernel
theorem dX3_digest_156 : decode cX3_digest 156 = .ok (.lstore_n 1, 1) := by decide +kernel
theorem dX3_digest_157 : decode cX3_digest 157 = .ok (.iinc 4 1, 3) := by decide +kernel
theorem dX3_digest_160 : decode cX3_digest 160 = .ok (.goto (-29), 3) := by decide +kernel
theorem dX3_digest_163 : decode cX3_digest 163 = .ok (.iinc 3 1, 3) := by decide +kernel
theorem dX3_digest_166 : decode cX3_digest 166 = .ok (.goto (-49), 3) := by decide +kernel
theorem dX3_digest_169 : decode cX3_digest 169 = .ok (.lload_n 1, 1) := by decide +kernel
theorem dX3_digest_170 : decode cX3_digest 170 = .ok (.lreturn, 1) := by decide +kernel
theorem dX3_existingChurn_0 : decode cX3_existingChurn 0 = .ok (.iload_n 1, 1) := by decide +kernel
theorem dX3_existingChurn_1 : decode cX3_existingChurn 1 = .ok (.ifCond .lt 14, 3) := by decide +kernel
theorem dX3_existingChurn_4 : decode cX3_existingChurn 4 = .ok (.iload_n 1, 1) := by decide +kernel
theorem dX3_existingChurn_5 : decode cX3_existingChurn 5 = .ok (.aload_n 0, 1) := by decide +kernel
theorem dX3_existingChurn_6 : decode cX3_existingChurn 6 = .ok (.getfield 10, 3) := by decide +kernel
theorem dX3_existingChurn_9 : decode cX3_existingChurn 9 = .ok (.getfield 51, 3) := by decide +kernel
theorem dX3_existingChurn_12 : decode cX3_existingChurn 12 = .ok (.if_icmp .lt 13, 3) := by decide +kernel
theorem dX3_existingChurn_15 : decode cX3_existingChurn 15 = .ok (.new 19, 3) := by decide +kernel
theorem dX3_existingChurn_18 : decode cX3_existingChurn 18 = .ok (.dup, 1) := by decide +kernel
theorem dX3_existingChurn_19 : decode cX3_existingChurn 19 = .ok (.ldc 176, 2) := by decide +kernel
theorem dX3_existingChurn_21 : decode cX3_existingChurn 21 = .ok (.invokespecial 23, 3) := by decide +kernel
theorem dX3_existingChurn_24 : decode cX3_existingChurn 24 = .ok (.athrow, 1) := by decide +kernel
theorem dX3_existingChurn_25 : decode cX3_existingChurn 25 = .ok (.aload_n 0, 1) := by decide +kernel
theorem dX3_existingChurn_26 : decode cX3_existingChurn 26 = .ok (.getfield 10, 3) := by decide +kernel
theorem dX3_existingChurn_29 : decode cX3_existingChurn 29 = .ok (.getfield 168, 3) := by decide +kernel
theorem dX3_existingChurn_32 : decode cX3_existingChurn 32 = .ok (.iload_n 1, 1) := by decide +kernel
theorem dX3_existingChurn_33 : decode cX3_existingChurn 33 = .ok (.aaload, 1) := by decide +kernel
theorem dX3_existingChurn_34 : decode cX3_existingChurn 34 = .ok (.areturn, 1) := by decide +kernel
theorem dX3_existingTub_0 : decode cX3_existingTub 0 = .ok (.iload_n 1, 1) := by decide +kernel
theorem dX3_existingTub_1 : decode cX3_existingTub 1 = .ok (.ifCond .lt 14, 3) := by decide +kernel
theorem dX3_existingTub_4 : decode cX3_existingTub 4 = .ok (.iload_n 1, 1) := by decide +kernel
theorem dX3_existingTub_5 : decode cX3_existingTub 5 = .ok (.aload_n 0, 1) := by decide +kernel
theorem dX3_existingTub_6 : decode cX3_existingTub 6 = .ok (.getfield 10, 3) := by decide +kernel
theorem dX3_existingTub_9 : decode cX3_existingTub 9 = .ok (.getfield 60, 3) := by decide +kernel
theorem dX3_existingTub_12 : decode cX3_existingTub 12 = .ok (.if_icmp .lt 13, 3) := by decide +kernel
theorem dX3_existingTub_15 : decode cX3_existingTub 15 = .ok (.new 19, 3) := by decide +kernel
theorem dX3_existingTub_18 : decode cX3_existingTub 18 = .ok (.dup, 1) := by decide +kernel
theorem dX3_existingTub_19 : decode cX3_existingTub 19 = .ok (.ldc 178, 2) := by decide +kernel
theorem dX3_existingTub_21 : decode cX3_existingTub 21 = .ok (.invokespecial 23, 3) := by decide +kernel
theorem dX3_existingTub_24 : decode cX3_existingTub 24 = .ok (.athrow, 1) := by decide +kernel
theorem dX3_existingTub_25 : decode cX3_existingTub 25 = .ok (.aload_n 0, 1) := by decide +kernel
theorem dX3_existingTub_26 : decode cX3_existingTub 26 = .ok (.getfield 10, 3) := by decide +kernel
theorem dX3_existingTub_29 : decode cX3_existingTub 29 = .ok (.getfield 172, 3) := by decide +kernel
theorem dX3_existingTub_32 : decode cX3_existingTub 32 = .ok (.iload_n 1, 1) := by decide +kernel
theorem dX3_existingTub_33 : decode cX3_existingTub 33 = .ok (.aaload, 1) := by decide +kernel
theorem dX3_existingTub_34 : decode cX3_existingTub 34 = .ok (.areturn, 1) := by decide +kernel
theorem dX3_checkPacked_0 : decode cX3_checkPacked 0 = .ok (.iload_n 0, 1) := by decide +kernel
theorem dX3_checkPacked_1 : decode cX3_checkPacked 1 = .ok (.ifCond .lt 9, 3) := by decide +kernel
theorem dX3_checkPacked_4 : decode cX3_checkPacked 4 = .ok (.iload_n 0, 1) := by decide +kernel
theorem dX3_checkPacked_5 : decode cX3_checkPacked 5 = .ok (.bipush 60, 2) := by decide +kernel
theorem dX3_checkPacked_7 : decode cX3_checkPacked 7 = .ok (.if_icmp .le 13, 3) := by decide +kernel
theorem dX3_checkPacked_10 : decode cX3_checkPacked 10 = .ok (.new 26, 3) := by decide +kernel
theorem dX3_checkPacked_13 : decode cX3_checkPacked 13 = .ok (.dup, 1) := by decide +kernel
theorem dX3_checkPacked_14 : decode cX3_checkPacked 14 = .ok (.ldc 180, 2) := by decide +kernel
theorem dX3_checkPacked_16 : decode cX3_checkPacked 16 = .ok (.invokespecial 30, 3) := by decide +kernel
theorem dX3_checkPacked_19 : decode cX3_checkPacked 19 = .ok (.athrow, 1) := by decide +kernel
theorem dX3_checkPacked_20 : decode cX3_checkPacked 20 = .ok (.return_, 1) := by decide +kernel
theorem dX3_checkHours_0 : decode cX3_checkHours 0 = .ok (.iload_n 0, 1) := by decide +kernel
theorem dX3_checkHours_1 : decode cX3_checkHours 1 = .ok (.iconst 1, 1) := by decide +kernel
theorem dX3_checkHours_2 : decode cX3_checkHours 2 = .ok (.if_icmp .lt 10, 3) := by decide +kernel
theorem dX3_checkHours_5 : decode cX3_checkHours 5 = .ok (.iload_n 0, 1) := by decide +kernel
theorem dX3_checkHours_6 : decode cX3_checkHours 6 = .ok (.sipush 168, 3) := by decide +kernel
theorem dX3_checkHours_9 : decode cX3_checkHours 9 = .ok (.if_icmp .le 13, 3) := by decide +kernel
theorem dX3_checkHours_12 : decode cX3_checkHours 12 = .ok (.new 26, 3) := by decide +kernel
theorem dX3_checkHours_15 : decode cX3_checkHours 15 = .ok (.dup, 1) := by decide +kernel
theorem dX3_checkHours_16 : decode cX3_checkHours 16 = .ok (.ldc 182, 2) := by decide +kernel
theorem dX3_checkHours_18 : decode cX3_checkHours 18 = .ok (.invokespecial 30, 3) := by decide +kernel
theorem dX3_checkHours_21 : decode cX3_checkHours 21 = .ok (.athrow, 1) := by decide +kernel
theorem dX3_checkHours_22 : decode cX3_checkHours 22 = .ok (.return_, 1) := by decide +kernel
theorem dX3_coldOfIce_0 : decode cX3_coldOfIce 0 = .ok (.iload_n 0, 1) := by decide +kernel
theorem dX3_coldOfIce_1 : decode cX3_coldOfIce 1 = .ok (.iconst 4, 1) := by decide +kernel
theorem dX3_coldOfIce_2 : decode cX3_coldOfIce 2 = .ok (.idiv, 1) := by decide +kernel
theorem dX3_coldOfIce_3 : decode cX3_coldOfIce 3 = .ok (.ireturn, 1) := by decide +kernel
set_option maxRecDepth 20000 in
theorem ggX3_coldWithBrine_X3_coldOfIce : GoodIn wsX3_coldWithBrine wsX3_coldOfIce := goodIn_r _ [8] (by decide +kernel) (by decide +kernel)
set_option maxRecDepth 20000 in
theorem gX3_coldWithBrine_X3_coldOfIce : GoodIn wsX3_coldWithBrine (va_wsS RX3 150 yX3_coldOfIce wsX3_coldOfIce) := goodIn_app (goodIn_of _ (by decide +kernel)) ggX3_coldWithBrine_X3_coldOfIce
theorem dX3_coldWithBrine_0 : decode cX3_coldWithBrine 0 = .ok (.iload_n 1, 1) := by decide +kernel
theorem dX3_coldWithBrine_1 : decode cX3_coldWithBrine 1 = .ok (.invokestatic 150, 3) := by decide +kernel
theorem dX3_coldWithBrine_4 : decode cX3_coldWithBrine 4 = .ok (.istore_n 3, 1) := by decide +kernel
theorem dX3_coldWithBrine_5 : decode cX3_coldWithBrine 5 = .ok (.iload_n 2, 1) := by decide +kernel
theorem dX3_coldWithBrine_6 : decode cX3_coldWithBrine 6 = .ok (.iconst 2, 1) := by decide +kernel
theorem dX3_coldWithBrine_7 : decode cX3_coldWithBrine 7 = .ok (.iload_n 3, 1) := by decide +kernel
theorem dX3_coldWithBrine_8 : decode cX3_coldWithBrine 8 = .ok (.imul, 1) := by decide +kernel
theorem dX3_coldWithBrine_9 : decode cX3_coldWithBrine 9 = .ok (.invokestatic 38, 3) := by decide +kernel
theorem dX3_coldWithBrine_12 : decode cX3_coldWithBrine 12 = .ok (.istore 4, 2) := by decide +kernel
theorem dX3_coldWithBrine_14 : decode cX3_coldWithBrine 14 = .ok (.bipush 30, 2) := by decide +kernel
theorem dX3_coldWithBrine_16 : decode cX3_coldWithBrine 16 = .ok (.iload_n 0, 1) := by decide +kernel
theorem dX3_coldWithBrine_17 : decode cX3_coldWithBrine 17 = .ok (.iload_n 3, 1) := by decide +kernel
theorem dX3_coldWithBrine_18 : decode cX3_coldWithBrine 18 = .ok (.iadd, 1) := by decide +kernel
theorem dX3_coldWithBrine_19 : decode cX3_coldWithBrine 19 = .ok (.iload 4, 2) := by decide +kernel
theorem dX3_coldWithBrine_21 : decode cX3_coldWithBrine 21 = .ok (.iadd, 1) := by decide +kernel
theorem dX3_coldWithBrine_22 : decode cX3_coldWithBrine 22 = .ok (.invokestatic 38, 3) := by decide +kernel
theorem dX3_coldWithBrine_25 : decode cX3_coldWithBrine 25 = .ok (.ireturn, 1) := by decide +kernel
theorem dX3_firmAfterHour_0 : decode cX3_firmAfterHour 0 = .ok (.bipush 100, 2) := by decide +kernel
theorem dX3_firmAfterHour_2 : decode cX3_firmAfterHour 2 = .ok (.iload_n 0, 1) := by decide +kernel
theorem dX3_firmAfterHour_3 : decode cX3_firmAfterHour 3 = .ok (.iload_n 1, 1) := by decide +kernel
theorem dX3_firmAfterHour_4 : decode cX3_firmAfterHour 4 = .ok (.iconst 3, 1) := by decide +kernel
theorem dX3_firmAfterHour_5 : decode cX3_firmAfterHour 5 = .ok (.idiv, 1) := by decide +kernel
theorem dX3_firmAfterHour_6 : decode cX3_firmAfterHour 6 = .ok (.iadd, 1) := by decide +kernel
theorem dX3_firmAfterHour_7 : decode cX3_firmAfterHour 7 = .ok (.invokestatic 38, 3) := by decide +kernel
theorem dX3_firmAfterHour_10 : decode cX3_firmAfterHour 10 = .ok (.ireturn, 1) := by decide +kernel
theorem dX3_coldAfterHour_0 : decode cX3_coldAfterHour 0 = .ok (.iconst 0, 1) := by decide +kernel
theorem dX3_coldAfterHour_1 : decode cX3_coldAfterHour 1 = .ok (.iload_n 0, 1) := by decide +kernel
theorem dX3_coldAfterHour_2 : decode cX3_coldAfterHour 2 = .ok (.iload_n 1, 1) := by decide +kernel
theorem dX3_coldAfterHour_3 : decode cX3_coldAfterHour 3 = .ok (.bipush 10, 2) := by decide +kernel
theorem dX3_coldAfterHour_5 : decode cX3_coldAfterHour 5 = .ok (.idiv, 1) := by decide +kernel
theorem dX3_coldAfterHour_6 : decode cX3_coldAfterHour 6 = .ok (.isub, 1) := by decide +kernel
theorem dX3_coldAfterHour_7 : decode cX3_coldAfterHour 7 = .ok (.iconst 1, 1) := by decide +kernel
theorem dX3_coldAfterHour_8 : decode cX3_coldAfterHour 8 = .ok (.isub, 1) := by decide +kernel
theorem dX3_coldAfterHour_9 : decode cX3_coldAfterHour 9 = .ok (.invokestatic 153, 3) := by decide +kernel
theorem dX3_coldAfterHour_12 : decode cX3_coldAfterHour 12 = .ok (.ireturn, 1) := by decide +kernel
theorem dX3_iceAfterHour_0 : decode cX3_iceAfterHour 0 = .ok (.iload_n 1, 1) := by decide +kernel
theorem dX3_iceAfterHour_1 : decode cX3_iceAfterHour 1 = .ok (.iconst 4, 1) := by decide +kernel
theorem dX3_iceAfterHour_2 : decode cX3_iceAfterHour 2 = .ok (.irem, 1) := by decide +kernel
theorem dX3_iceAfterHour_3 : decode cX3_iceAfterHour 3 = .ok (.ifCond .ne 15, 3) := by decide +kernel
theorem dX3_iceAfterHour_6 : decode cX3_iceAfterHour 6 = .ok (.iconst 0, 1) := by decide +kernel
theorem dX3_iceAfterHour_7 : decode cX3_iceAfterHour 7 = .ok (.iload_n 0, 1) := by decide +kernel
theorem dX3_iceAfterHour_8 : decode cX3_iceAfterHour 8 = .ok (.iload_n 2, 1) := by decide +kernel
theorem dX3_iceAfterHour_9 : decode cX3_iceAfterHour 9 = .ok (.iconst 5, 1) := by decide +kernel
theorem dX3_iceAfterHour_10 : decode cX3_iceAfterHour 10 = .ok (.idiv, 1) := by decide +kernel
theorem dX3_iceAfterHour_11 : decode cX3_iceAfterHour 11 = .ok (.isub, 1) := by decide +kernel
theorem dX3_iceAfterHour_12 : decode cX3_iceAfterHour 12 = .ok (.invokestatic 153, 3) := by decide +kernel
theorem dX3_iceAfterHour_15 : decode cX3_iceAfterHour 15 = .ok (.goto 4, 3) := by decide +kernel
theorem dX3_iceAfterHour_18 : decode cX3_iceAfterHour 18 = .ok (.iload_n 0, 1) := by decide +kernel
theorem dX3_iceAfterHour_19 : decode cX3_iceAfterHour 19 = .ok (.ireturn, 1) := by decide +kernel
theorem dX3_mixed_0 : decode cX3_mixed 0 = .ok (.lload_n 0, 1) := by decide +kernel
theorem dX3_mixed_1 : decode cX3_mixed 1 = .ok (.ldc2_w 184, 3) := by decide +kernel
theorem dX3_mixed_4 : decode cX3_mixed 4 = .ok (.lmul, 1) := by decide +kernel
theorem dX3_mixed_5 : decode cX3_mixed 5 = .ok (.lload_n 2, 1) := by decide +kernel
theorem dX3_mixed_6 : decode cX3_mixed 6 = .ok (.ladd, 1) := by decide +kernel
theorem dX3_mixed_7 : decode cX3_mixed 7 = .ok (.lreturn, 1) := by decide +kernel
end
section
theorem dX4_init_0 : decode cX4_init 0 = .ok (.aload_n 0, 1) := by decide +kernel
theorem dX4_init_1 : decode cX4_init 1 = .ok (.invokespecial 3, 3) := by decide +kernel
theorem dX4_init_4 : decode cX4_init 4 = .ok (.aload_n 0, 1) := by decide +kernel
theorem dX4_init_5 : decode cX4_init 5 = .ok (.bipush 37, 2) := by decide +kernel
theorem dX4_init_7 : decode cX4_init 7 = .ok (.newarray .int, 2) := by decide +kernel
theorem dX4_init_9 : decode cX4_init 9 = .ok (.putfield 9, 3) := by decide +kernel
theorem dX4_init_12 : decode cX4_init 12 = .ok (.aload_n 0, 1) := by decide +kernel
theorem dX4_init_13 : decode cX4_init 13 = .ok (.bipush 37, 2) := by decide +kernel
theorem dX4_init_15 : decode cX4_init 15 = .ok (.newarray .int, 2) := by decide +kernel
theorem dX4_init_17 : decode cX4_init 17 = .ok (.putfield 13, 3) := by decide +kernel
theorem dX4_init_20 : decode cX4_init 20 = .ok (.aload_n 0, 1) := by decide +kernel
theorem dX4_init_21 : decode cX4_init 21 = .ok (.bipush 7, 2) := by decide +kernel
theorem dX4_init_23 : decode cX4_init 23 = .ok (.newarray .int, 2) := by decide +kernel
theorem dX4_init_25 : decode cX4_init 25 = .ok (.dup, 1) := by decide +kernel
theorem dX4_init_26 : decode cX4_init 26 = .ok (.iconst 0, 1) := by decide +kernel
theorem dX4_init_27 : decode cX4_init 27 = .ok (.bipush 20, 2) := by decide +kernel
theorem dX4_init_29 : decode cX4_init 29 = .ok (.iastore, 1) := by decide +kernel
theorem dX4_init_30 : decode cX4_init 30 = .ok (.dup, 1) := by decide +kernel
theorem dX4_init_31 : decode cX4_init 31 = .ok (.iconst 1, 1) := by decide +kernel
theorem dX4_init_32 : decode cX4_init 32 = .ok (.bipush 20, 2) := by decide +kernel
theorem dX4_init_34 : decode cX4_init 34 = .ok (.iastore, 1) := by decide +kernel
theorem dX4_init_35 : decode cX4_init 35 = .ok (.dup, 1) := by decide +kernel
theorem dX4_init_36 : decode cX4_init 36 = .ok (.iconst 2, 1) := by decide +kernel
theorem dX4_init_37 : decode cX4_init 37 = .ok (.bipush 20, 2) := by decide +kernel
theorem dX4_init_39 : decode cX4_init 39 = .ok (.iastore, 1) := by decide +kernel
theorem dX4_init_40 : decode cX4_init 40 = .ok (.dup, 1) := by decide +kernel
theorem dX4_init_41 : decode cX4_init 41 = .ok (.iconst 3, 1) := by decide +kernel
theorem dX4_init_42 : decode cX4_init 42 = .ok (.bipush 20, 2) := by decide +kernel
theorem dX4_init_44 : decode cX4_init 44 = .ok (.iastore, 1) := by decide +kernel
theorem dX4_init_45 : decode cX4_init 45 = .ok (.dup, 1) := by decide +kernel
theorem dX4_init_46 : decode cX4_init 46 = .ok (.iconst 4, 1) := by decide +kernel
theorem dX4_init_47 : decode cX4_init 47 = .ok (.bipush 20, 2) := by decide +kernel
theorem dX4_init_49 : decode cX4_init 49 = .ok (.iastore, 1) := by decide +kernel
theorem dX4_init_50 : decode cX4_init 50 = .ok (.dup, 1) := by decide +kernel
theorem dX4_init_51 : decode cX4_init 51 = .ok (.iconst 5, 1) := by decide +kernel
theorem dX4_init_52 : decode cX4_init 52 = .ok (.bipush 20, 2) := by decide +kernel
theorem dX4_init_54 : decode cX4_init 54 = .ok (.iastore, 1) := by decide +kernel
theorem dX4_init_55 : decode cX4_init 55 = .ok (.dup, 1) := by decide +kernel
theorem dX4_init_56 : decode cX4_init 56 = .ok (.bipush 6, 2) := by decide +kernel
theorem dX4_init_58 : decode cX4_init 58 = .ok (.bipush 20, 2) := by decide +kernel
theorem dX4_init_60 : decode cX4_init 60 = .ok (.iastore, 1) := by decide +kernel
theorem dX4_init_61 : decode cX4_init 61 = .ok (.putfield 16, 3) := by decide +kernel
theorem dX4_init_64 : decode cX4_init 64 = .ok (.return_, 1) := by decide +kernel
theorem dX4_thrown_0 : decode cX4_thrown 0 = .ok (.aload_n 0, 1) := by decide +kernel
theorem dX4_thrown_1 : decode cX4_thrown 1 = .ok (.getfield 19, 3) := by decide +kernel
theorem dX4_thrown_4 : decode cX4_thrown 4 = .ok (.ireturn, 1) := by decide +kernel
theorem dX4_no_0 : decode cX4_no 0 = .ok (.aload_n 0, 1) := by decide +kernel
theorem dX4_no_1 : decode cX4_no 1 = .ok (.iload_n 1, 1) := by decide +kernel
theorem dX4_no_2 : decode cX4_no 2 = .ok (.putfield 19, 3) := by decide +kernel
theorem dX4_no_5 : decode cX4_no 5 = .ok (.iconst 0, 1) := by decide +kernel
theorem dX4_no_6 : decode cX4_no 6 = .ok (.ireturn, 1) := by decide +kernel
theorem dX4_isIn_0 : decode cX4_isIn 0 = .ok (.iload_n 0, 1) := by decide +kernel
theorem dX4_isIn_1 : decode cX4_isIn 1 = .ok (.iload_n 1, 1) := by decide +kernel
theorem dX4_isIn_2 : decode cX4_isIn 2 = .ok (.if_icmp .lt 12, 3) := by decide +kernel
theorem dX4_isIn_5 : decode cX4_isIn 5 = .ok (.iload_n 0, 1) := by decide +kernel
theorem dX4_isIn_6 : decode cX4_isIn 6 = .ok (.iload_n 2, 1) := by decide +kernel
theorem dX4_isIn_7 : decode cX4_isIn 7 = .ok (.if_icmp .gt 7, 3) := by decide +kernel
theorem dX4_isIn_10 : decode cX4_isIn 10 = .ok (.iconst 1, 1) := by decide +kernel
theorem dX4_isIn_11 : decode cX4_isIn 11 = .ok (.goto 4, 3) := by decide +kernel
theorem dX4_isIn_14 : decode cX4_isIn 14 = .ok (.iconst 0, 1) := by decide +kernel
theorem dX4_isIn_15 : decode cX4_isIn 15 = .ok (.ireturn, 1) := by decide +kernel
set_option maxRecDepth 20000 in
theorem ggX4_isChurn_X4_isIn : GoodIn wsX4_isChurn wsX4_isIn := goodIn_r _ [5] (by decide +kernel) (by decide +kernel)
set_option maxRecDepth 20000 in
theorem gX4_isChurn_X4_isIn : GoodIn wsX4_isChurn (va_wsS RX4 26 yX4_isIn wsX4_isIn) := goodIn_app (goodIn_of _ (by decide +kernel)) ggX4_isChurn_X4_isIn
theorem dX4_isChurn_0 : decode cX4_isChurn 0 = .ok (.iload_n 1, 1) := by decide +kernel
theorem dX4_isChurn_1 : decode cX4_isChurn 1 = .ok (.iconst 0, 1) := by decide +kernel
theorem dX4_isChurn_2 : decode cX4_isChurn 2 = .ok (.aload_n 0, 1) := by decide +kernel
theorem dX4_isChurn_3 : decode cX4_isChurn 3 = .ok (.getfield 23, 3) := by decide +kernel
theorem dX4_isChurn_6 : decode cX4_isChurn 6 = .ok (.iconst 1, 1) := by decide +kernel
theorem dX4_isChurn_7 : decode cX4_isChurn 7 = .ok (.isub, 1) := by decide +kernel
theorem dX4_isChurn_8 : decode cX4_isChurn 8 = .ok (.invokestatic 26, 3) := by decide +kernel
theorem dX4_isChurn_11 : decode cX4_isChurn 11 = .ok (.ireturn, 1) := by decide +kernel
set_option maxRecDepth 20000 in
theorem ggX4_isTub_X4_isIn : GoodIn wsX4_isTub wsX4_isIn := goodIn_r _ [5] (by decide +kernel) (by decide +kernel)
set_option maxRecDepth 20000 in
theorem gX4_isTub_X4_isIn : GoodIn wsX4_isTub (va_wsS RX4 26 yX4_isIn wsX4_isIn) := goodIn_app (goodIn_of _ (by decide +kernel)) ggX4_isTub_X4_isIn
theorem dX4_isTub_0 : decode cX4_isTub 0 = .ok (.iload_n 1, 1) := by decide +kernel
theorem dX4_isTub_1 : decode cX4_isTub 1 = .ok (.iconst 0, 1) := by decide +kernel
theorem dX4_isTub_2 : decode cX4_isTub 2 = .ok (.aload_n 0, 1) := by decide +kernel
theorem dX4_isTub_3 : decode cX4_isTub 3 = .ok (.getfield 30, 3) := by decide +kernel
theorem dX4_isTub_6 : decode cX4_isTub 6 = .ok (.iconst 1, 1) := by decide +kernel
theorem dX4_isTub_7 : decode cX4_isTub 7 = .ok (.isub, 1) := by decide +kernel
theorem dX4_isTub_8 : decode cX4_isTub 8 = .ok (.invokestatic 26, 3) := by decide +kernel
theorem dX4_isTub_11 : decode cX4_isTub 11 = .ok (.ireturn, 1) := by decide +kernel
theorem dX4_ch_0 : decode cX4_ch 0 = .ok (.aload_n 0, 1) := by decide +kernel
theorem dX4_ch_1 : decode cX4_ch 1 = .ok (.getfield 9, 3) := by decide +kernel
theorem dX4_ch_4 : decode cX4_ch 4 = .ok (.bipush 7, 2) := by decide +kernel
theorem dX4_ch_6 : decode cX4_ch 6 = .ok (.iconst 3, 1) := by decide +kernel
theorem dX4_ch_7 : decode cX4_ch 7 = .ok (.iload_n 1, 1) := by decide +kernel
theorem dX4_ch_8 : decode cX4_ch 8 = .ok (.imul, 1) := by decide +kernel
theorem dX4_ch_9 : decode cX4_ch 9 = .ok (.iadd, 1) := by decide +kernel
theorem dX4_ch_10 : decode cX4_ch 10 = .ok (.iload_n 2, 1) := by decide +kernel
theorem dX4_ch_11 : decode cX4_ch 11 = .ok (.iadd, 1) := by decide +kernel
theorem dX4_ch_12 : decode cX4_ch 12 = .ok (.iaload, 1) := by decide +kernel
theorem dX4_ch_13 : decode cX4_ch 13 = .ok (.ireturn, 1) := by decide +kernel
theorem dX4_tu_0 : decode cX4_tu 0 = .ok (.aload_n 0, 1) := by decide +kernel
theorem dX4_tu_1 : decode cX4_tu 1 = .ok (.getfield 9, 3) := by decide +kernel
theorem dX4_tu_4 : decode cX4_tu 4 = .ok (.bipush 19, 2) := by decide +kernel
theorem dX4_tu_6 : decode cX4_tu 6 = .ok (.iconst 3, 1) := by decide +kernel
theorem dX4_tu_7 : decode cX4_tu 7 = .ok (.iload_n 1, 1) := by decide +kernel
theorem dX4_tu_8 : decode cX4_tu 8 = .ok (.imul, 1) := by decide +kernel
theorem dX4_tu_9 : decode cX4_tu 9 = .ok (.iadd, 1) := by decide +kernel
theorem dX4_tu_10 : decode cX4_tu 10 = .ok (.iload_n 2, 1) := by decide +kernel
theorem dX4_tu_11 : decode cX4_tu 11 = .ok (.iadd, 1) := by decide +kernel
theorem dX4_tu_12 : decode cX4_tu 12 = .ok (.iaload, 1) := by decide +kernel
theorem dX4_tu_13 : decode cX4_tu 13 = .ok (.ireturn, 1) := by decide +kernel
theorem dX4_setChurn_0 : decode cX4_setChurn 0 = .ok (.aload_n 0, 1) := by decide +kernel
theorem dX4_setChurn_1 : decode cX4_setChurn 1 = .ok (.getfield 9, 3) := by decide +kernel
theorem dX4_setChurn_4 : decode cX4_setChurn 4 = .ok (.bipush 7, 2) := by decide +kernel
theorem dX4_setChurn_6 : decode cX4_setChurn 6 = .ok (.iconst 3, 1) := by decide +kernel
theorem dX4_setChurn_7 : decode cX4_setChurn 7 = .ok (.iload_n 1, 1) := by decide +kernel
theorem dX4_setChurn_8 : decode cX4_setChurn 8 = .ok (.imul, 1) := by decide +kernel
theorem dX4_setChurn_9 : decode cX4_setChurn 9 = .ok (.iadd, 1) := by decide +kernel
theorem dX4_setChurn_10 : decode cX4_setChurn 10 = .ok (.iload_n 2, 1) := by decide +kernel
theorem dX4_setChurn_11 : decode cX4_setChurn 11 = .ok (.iadd, 1) := by decide +kernel
theorem dX4_setChurn_12 : decode cX4_setChurn 12 = .ok (.iload_n 3, 1) := by decide +kernel
theorem dX4_setChurn_13 : decode cX4_setChurn 13 = .ok (.iastore, 1) := by decide +kernel
theorem dX4_setChurn_14 : decode cX4_setChurn 14 = .ok (.return_, 1) := by decide +kernel
theorem dX4_setTub_0 : decode cX4_setTub 0 = .ok (.aload_n 0, 1) := by decide +kernel
theorem dX4_setTub_1 : decode cX4_setTub 1 = .ok (.getfield 9, 3) := by decide +kernel
theorem dX4_setTub_4 : decode cX4_setTub 4 = .ok (.bipush 19, 2) := by decide +kernel
theorem dX4_setTub_6 : decode cX4_setTub 6 = .ok (.iconst 3, 1) := by decide +kernel
theorem dX4_setTub_7 : decode cX4_setTub 7 = .ok (.iload_n 1, 1) := by decide +kernel
theorem dX4_setTub_8 : decode cX4_setTub 8 = .ok (.imul, 1) := by decide +kernel
theorem dX4_setTub_9 : decode cX4_setTub 9 = .ok (.iadd, 1) := by decide +kernel
theorem dX4_setTub_10 : decode cX4_setTub 10 = .ok (.iload_n 2, 1) := by decide +kernel
theorem dX4_setTub_11 : decode cX4_setTub 11 = .ok (.iadd, 1) := by decide +kernel
theorem dX4_setTub_12 : decode cX4_setTub 12 = .ok (.iload_n 3, 1) := by decide +kernel
theorem dX4_setTub_13 : decode cX4_setTub 13 = .ok (.iastore, 1) := by decide +kernel
theorem dX4_setTub_14 : decode cX4_setTub 14 = .ok (.return_, 1) := by decide +kernel
set_option maxRecDepth 20000 in
theorem ggX4_bring_X4_isIn : GoodIn wsX4_bring wsX4_isIn := goodIn_r _ [11] (by decide +kernel) (by decide +kernel)
set_option maxRecDepth 20000 in
theorem gX4_bring_X4_isIn : GoodIn wsX4_bring (va_wsS RX4 26 yX4_isIn wsX4_isIn) := goodIn_app (goodIn_of _ (by decide +kernel)) ggX4_bring_X4_isIn
set_option maxRecDepth 20000 in
theorem ggX4_bring_X4_no : GoodIn wsX4_bring wsX4_no := goodIn_r _ [15, 1, 16, 17, 18, 19, 20, 21] (by decide +kernel) (by decide +kernel)
set_option maxRecDepth 20000 in
theorem gX4_bring_X4_no : GoodIn wsX4_bring (wsV RX4 33 RX4 yX4_no wsX4_no) := goodIn_app (goodIn_of _ (by decide +kernel)) ggX4_bring_X4_no
theorem dX4_bring_0 : decode cX4_bring 0 = .ok (.aload_n 0, 1) := by decide +kernel
theorem dX4_bring_1 : decode cX4_bring 1 = .ok (.iconst 0, 1) := by decide +kernel
theorem dX4_bring_2 : decode cX4_bring 2 = .ok (.putfield 19, 3) := by decide +kernel
theorem dX4_bring_5 : decode cX4_bring 5 = .ok (.iload_n 1, 1) := by decide +kernel
theorem dX4_bring_6 : decode cX4_bring 6 = .ok (.iconst 0, 1) := by decide +kernel
theorem dX4_bring_7 : decode cX4_bring 7 = .ok (.iconst 3, 1) := by decide +kernel
theorem dX4_bring_8 : decode cX4_bring 8 = .ok (.invokestatic 26, 3) := by decide +kernel
theorem dX4_bring_11 : decode cX4_bring 11 = .ok (.ifCond .ne 9, 3) := by decide +kernel
theorem dX4_bring_14 : decode cX4_bring 14 = .ok (.aload_n 0, 1) := by decide +kernel
theorem dX4_bring_15 : decode cX4_bring 15 = .ok (.iconst 1, 1) := by decide +kernel
theorem dX4_bring_16 : decode cX4_bring 16 = .ok (.invokevirtual 33, 3) := by decide +kernel
theorem dX4_bring_19 : decode cX4_bring 19 = .ok (.ireturn, 1) := by decide +kernel
theorem dX4_bring_20 : decode cX4_bring 20 = .ok (.iload_n 2, 1) := by decide +kernel
theorem dX4_bring_21 : decode cX4_bring 21 = .ok (.iconst 1, 1) := by decide +kernel
theorem dX4_bring_22 : decode cX4_bring 22 = .ok (.sipush 300, 3) := by decide +kernel
theorem dX4_bring_25 : decode cX4_bring 25 = .ok (.invokestatic 26, 3) := by decide +kernel
theorem dX4_bring_28 : decode cX4_bring 28 = .ok (.ifCond .ne 9, 3) := by decide +kernel
theorem dX4_bring_31 : decode cX4_bring 31 = .ok (.aload_n 0, 1) := by decide +kernel
theorem dX4_bring_32 : decode cX4_bring 32 = .ok (.iconst 2, 1) := by decide +kernel
theorem dX4_bring_33 : decode cX4_bring 33 = .ok (.invokevirtual 33, 3) := by decide +kernel
theorem dX4_bring_36 : decode cX4_bring 36 = .ok (.ireturn, 1) := by decide +kernel
theorem dX4_bring_37 : decode cX4_bring 37 = .ok (.aload_n 0, 1) := by decide +kernel
theorem dX4_bring_38 : decode cX4_bring 38 = .ok (.getfield 9, 3) := by decide +kernel
theorem dX4_bring_41 : decode cX4_bring 41 = .ok (.iconst 1, 1) := by decide +kernel
theorem dX4_bring_42 : decode cX4_bring 42 = .ok (.iload_n 1, 1) := by decide +kernel
theorem dX4_bring_43 : decode cX4_bring 43 = .ok (.iadd, 1) := by decide +kernel
theorem dX4_bring_44 : decode cX4_bring 44 = .ok (.getstatic 37, 3) := by decide +kernel
theorem dX4_bring_47 : decode cX4_bring 47 = .ok (.iconst 1, 1) := by decide +kernel
theorem dX4_bring_48 : decode cX4_bring 48 = .ok (.iload_n 1, 1) := by decide +kernel
theorem dX4_bring_49 : decode cX4_bring 49 = .ok (.iadd, 1) := by decide +kernel
theorem dX4_bring_50 : decode cX4_bring 50 = .ok (.iaload, 1) := by decide +kernel
theorem dX4_bring_51 : decode cX4_bring 51 = .ok (.aload_n 0, 1) := by decide +kernel
theorem dX4_bring_52 : decode cX4_bring 52 = .ok (.getfield 9, 3) := by decide +kernel
theorem dX4_bring_55 : decode cX4_bring 55 = .ok (.iconst 1, 1) := by decide +kernel
theorem dX4_bring_56 : decode cX4_bring 56 = .ok (.iload_n 1, 1) := by decide +kernel
theorem dX4_bring_57 : decode cX4_bring 57 = .ok (.iadd, 1) := by decide +kernel
theorem dX4_bring_58 : decode cX4_bring 58 = .ok (.iaload, 1) := by decide +kernel
theorem dX4_bring_59 : decode cX4_bring 59 = .ok (.iload_n 2, 1) := by decide +kernel
theorem dX4_bring_60 : decode cX4_bring 60 = .ok (.iadd, 1) := by decide +kernel
theorem dX4_bring_61 : decode cX4_bring 61 = .ok (.invokestatic 40, 3) := by decide +kernel
theorem dX4_bring_64 : decode cX4_bring 64 = .ok (.iastore, 1) := by decide +kernel
theorem dX4_bring_65 : decode cX4_bring 65 = .ok (.aload_n 0, 1) := by decide +kernel
theorem dX4_bring_66 : decode cX4_bring 66 = .ok (.getfield 9, 3) := by decide +kernel
theorem dX4_bring_69 : decode cX4_bring 69 = .ok (.iconst 1, 1) := by decide +kernel
theorem dX4_bring_70 : decode cX4_bring 70 = .ok (.iload_n 1, 1) := by decide +kernel
theorem dX4_bring_71 : decode cX4_bring 71 = .ok (.iadd, 1) := by decide +kernel
theorem dX4_bring_72 : decode cX4_bring 72 = .ok (.iaload, 1) := by decide +kernel
theorem dX4_bring_73 : decode cX4_bring 73 = .ok (.ireturn, 1) := by decide +kernel
set_option maxRecDepth 20000 in
theorem ggX4_setHeat_X4_isIn : GoodIn wsX4_setHeat wsX4_isIn := goodIn_r _ [6] (by decide +kernel) (by decide +kernel)
set_option maxRecDepth 20000 in
theorem gX4_setHeat_X4_isIn : GoodIn wsX4_setHeat (va_wsS RX4 26 yX4_isIn wsX4_isIn) := goodIn_app (goodIn_of _ (by decide +kernel)) ggX4_setHeat_X4_isIn
set_option maxRecDepth 20000 in
theorem ggX4_setHeat_X4_no : GoodIn wsX4_setHeat wsX4_no := goodIn_r _ [10, 1, 11, 12, 13, 14, 15, 16] (by decide +kernel) (by decide +kernel)
set_option maxRecDepth 20000 in
theorem gX4_setHeat_X4_no : GoodIn wsX4_setHeat (wsV RX4 33 RX4 yX4_no wsX4_no) := goodIn_app (goodIn_of _ (by decide +kernel)) ggX4_setHeat_X4_no
theorem dX4_setHeat_0 : decode cX4_setHeat 0 = .ok (.aload_n 0, 1) := by decide +kernel
theorem dX4_setHeat_1 : decode cX4_setHeat 1 = .ok (.iconst 0, 1) := by decide +kernel
theorem dX4_setHeat_2 : decode cX4_setHeat 2 = .ok (.putfield 19, 3) := by decide +kernel
theorem dX4_setHeat_5 : decode cX4_setHeat 5 = .ok (.iload_n 1, 1) := by decide +kernel
theorem dX4_setHeat_6 : decode cX4_setHeat 6 = .ok (.iconst 0, 1) := by decide +kernel
theorem dX4_setHeat_7 : decode cX4_setHeat 7 = .ok (.bipush 6, 2) := by decide +kernel
theorem dX4_setHeat_9 : decode cX4_setHeat 9 = .ok (.invokestatic 26, 3) := by decide +kernel
theorem dX4_setHeat_12 : decode cX4_setHeat 12 = .ok (.ifCond .ne 9, 3) := by decide +kernel
theorem dX4_setHeat_15 : decode cX4_setHeat 15 = .ok (.aload_n 0, 1) := by decide +kernel
theorem dX4_setHeat_16 : decode cX4_setHeat 16 = .ok (.iconst 1, 1) := by decide +kernel
theorem dX4_setHeat_17 : decode cX4_setHeat 17 = .ok (.invokevirtual 33, 3) := by decide +kernel
theorem dX4_setHeat_20 : decode cX4_setHeat 20 = .ok (.ireturn, 1) := by decide +kernel
theorem dX4_setHeat_21 : decode cX4_setHeat 21 = .ok (.iload_n 2, 1) := by decide +kernel
theorem dX4_setHeat_22 : decode cX4_setHeat 22 = .ok (.iconst 0, 1) := by decide +kernel
theorem dX4_setHeat_23 : decode cX4_setHeat 23 = .ok (.bipush 40, 2) := by decide +kernel
theorem dX4_setHeat_25 : decode cX4_setHeat 25 = .ok (.invokestatic 26, 3) := by decide +kernel
theorem dX4_setHeat_28 : decode cX4_setHeat 28 = .ok (.ifCond .ne 9, 3) := by decide +kernel
theorem dX4_setHeat_31 : decode cX4_setHeat 31 = .ok (.aload_n 0, 1) := by decide +kernel
theorem dX4_setHeat_32 : decode cX4_setHeat 32 = .ok (.iconst 2, 1) := by decide +kernel
theorem dX4_setHeat_33 : decode cX4_setHeat 33 = .ok (.invokevirtual 33, 3) := by decide +kernel
theorem dX4_setHeat_36 : decode cX4_setHeat 36 = .ok (.ireturn, 1) := by decide +kernel
theorem dX4_setHeat_37 : decode cX4_setHeat 37 = .ok (.aload_n 0, 1) := by decide +kernel
theorem dX4_setHeat_38 : decode cX4_setHeat 38 = .ok (.getfield 16, 3) := by decide +kernel
theorem dX4_setHeat_41 : decode cX4_setHeat 41 = .ok (.iload_n 1, 1) := by decide +kernel
theorem dX4_setHeat_42 : decode cX4_setHeat 42 = .ok (.iaload, 1) := by decide +kernel
theorem dX4_setHeat_43 : decode cX4_setHeat 43 = .ok (.istore_n 3, 1) := by decide +kernel
theorem dX4_setHeat_44 : decode cX4_setHeat 44 = .ok (.aload_n 0, 1) := by decide +kernel
theorem dX4_setHeat_45 : decode cX4_setHeat 45 = .ok (.getfield 16, 3) := by decide +kernel
theorem dX4_setHeat_48 : decode cX4_setHeat 48 = .ok (.iload_n 1, 1) := by decide +kernel
theorem dX4_setHeat_49 : decode cX4_setHeat 49 = .ok (.iload_n 2, 1) := by decide +kernel
theorem dX4_setHeat_50 : decode cX4_setHeat 50 = .ok (.iastore, 1) := by decide +kernel
theorem dX4_setHeat_51 : decode cX4_setHeat 51 = .ok (.iload_n 3, 1) := by decide +kernel
theorem dX4_setHeat_52 : decode cX4_setHeat 52 = .ok (.ireturn, 1) := by decide +kernel
theorem dX4_heatNow_0 : decode cX4_heatNow 0 = .ok (.aload_n 0, 1) := by decide +kernel
theorem dX4_heatNow_1 : decode cX4_heatNow 1 = .ok (.getfield 16, 3) := by decide +kernel
theorem dX4_heatNow_4 : decode cX4_heatNow 4 = .ok (.aload_n 0, 1) := by decide +kernel
theorem dX4_heatNow_5 : decode cX4_heatNow 5 = .ok (.getfield 9, 3) := by decide +kernel
theorem dX4_heatNow_8 : decode cX4_heatNow 8 = .ok (.iconst 0, 1) := by decide +kernel
theorem dX4_heatNow_9 : decode cX4_heatNow 9 = .ok (.iaload, 1) := by decide +kernel
theorem dX4_heatNow_10 : decode cX4_heatNow 10 = .ok (.bipush 24, 2) := by decide +kernel
theorem dX4_heatNow_12 : decode cX4_heatNow 12 = .ok (.idiv, 1) := by decide +kernel
theorem dX4_heatNow_13 : decode cX4_heatNow 13 = .ok (.bipush 7, 2) := by decide +kernel
theorem dX4_heatNow_15 : decode cX4_heatNow 15 = .ok (.irem, 1) := by decide +kernel
theorem dX4_heatNow_16 : decode cX4_heatNow 16 = .ok (.iaload, 1) := by decide +kernel
theorem dX4_heatNow_17 : decode cX4_heatNow 17 = .ok (.ireturn, 1) := by decide +kernel
set_option maxRecDepth 20000 in
theorem ggX4_churn_X4_no : GoodIn wsX4_churn wsX4_no := goodIn_r _ [7, 1, 8, 9, 10, 11, 12, 13] (by decide +kernel) (by decide +kernel)
set_option maxRecDepth 20000 in
theorem gX4_churn_X4_no : GoodIn wsX4_churn (wsV RX4 33 RX4 yX4_no wsX4_no) := goodIn_app (goodIn_of _ (by decide +kernel)) ggX4_churn_X4_no
theorem dX4_churn_0 : decode cX4_churn 0 = .ok (.aload_n 0, 1) := by decide +kernel
theorem dX4_churn_1 : decode cX4_churn 1 = .ok (.iconst 0, 1) := by decide +kernel
theorem dX4_churn_2 : decode cX4_churn 2 = .ok (.putfield 19, 3) := by decide +kernel
theorem dX4_churn_5 : decode cX4_churn 5 = .ok (.aload_n 0, 1) := by decide +kernel
theorem dX4_churn_6 : decode cX4_churn 6 = .ok (.getfield 23, 3) := by decide +kernel
theorem dX4_churn_9 : decode cX4_churn 9 = .ok (.iconst 4, 1) := by decide +kernel
theorem dX4_churn_10 : decode cX4_churn 10 = .ok (.if_icmp .ne 9, 3) := by decide +kernel
theorem dX4_churn_13 : decode cX4_churn 13 = .ok (.aload_n 0, 1) := by decide +kernel
theorem dX4_churn_14 : decode cX4_churn 14 = .ok (.iconst 1, 1) := by decide +kernel
theorem dX4_churn_15 : decode cX4_churn 15 = .ok (.invokevirtual 33, 3) := by decide +kernel
theorem dX4_churn_18 : decode cX4_churn 18 = .ok (.ireturn, 1) := by decide +kernel
theorem dX4_churn_19 : decode cX4_churn 19 = .ok (.aload_n 0, 1) := by decide +kernel
theorem dX4_churn_20 : decode cX4_churn 20 = .ok (.dup, 1) := by decide +kernel
theorem dX4_churn_21 : decode cX4_churn 21 = .ok (.getfield 23, 3) := by decide +kernel
theorem dX4_churn_24 : decode cX4_churn 24 = .ok (.iconst 1, 1) := by decide +kernel
theorem dX4_churn_25 : decode cX4_churn 25 = .ok (.iadd, 1) := by decide +kernel
theorem dX4_churn_26 : decode cX4_churn 26 = .ok (.putfield 23, 3) := by decide +kernel
theorem dX4_churn_29 : decode cX4_churn 29 = .ok (.aload_n 0, 1) := by decide +kernel
theorem dX4_churn_30 : decode cX4_churn 30 = .ok (.getfield 23, 3) := by decide +kernel
theorem dX4_churn_33 : decode cX4_churn 33 = .ok (.iconst 1, 1) := by decide +kernel
theorem dX4_churn_34 : decode cX4_churn 34 = .ok (.isub, 1) := by decide +kernel
theorem dX4_churn_35 : decode cX4_churn 35 = .ok (.ireturn, 1) := by decide +kernel
set_option maxRecDepth 20000 in
theorem ggX4_tub_X4_no : GoodIn wsX4_tub wsX4_no := goodIn_r _ [7, 1, 8, 9, 10, 11, 12, 13] (by decide +kernel) (by decide +kernel)
set_option maxRecDepth 20000 in
theorem gX4_tub_X4_no : GoodIn wsX4_tub (wsV RX4 33 RX4 yX4_no wsX4_no) := goodIn_app (goodIn_of _ (by decide +kernel)) ggX4_tub_X4_no
theorem dX4_tub_0 : decode cX4_tub 0 = .ok (.aload_n 0, 1) := by decide +kernel
theorem dX4_tub_1 : decode cX4_tub 1 = .ok (.iconst 0, 1) := by decide +kernel
theorem dX4_tub_2 : decode cX4_tub 2 = .ok (.putfield 19, 3) := by decide +kernel
theorem dX4_tub_5 : decode cX4_tub 5 = .ok (.aload_n 0, 1) := by decide +kernel
theorem dX4_tub_6 : decode cX4_tub 6 = .ok (.getfield 30, 3) := by decide +kernel
theorem dX4_tub_9 : decode cX4_tub 9 = .ok (.bipush 6, 2) := by decide +kernel
theorem dX4_tub_11 : decode cX4_tub 11 = .ok (.if_icmp .ne 9, 3) := by decide +kernel
theorem dX4_tub_14 : decode cX4_tub 14 = .ok (.aload_n 0, 1) := by decide +kernel
theorem dX4_tub_15 : decode cX4_tub 15 = .ok (.iconst 1, 1) := by decide +kernel
theorem dX4_tub_16 : decode cX4_tub 16 = .ok (.invokevirtual 33, 3) := by decide +kernel
theorem dX4_tub_19 : decode cX4_tub 19 = .ok (.ireturn, 1) := by decide +kernel
theorem dX4_tub_20 : decode cX4_tub 20 = .ok (.aload_n 0, 1) := by decide +kernel
theorem dX4_tub_21 : decode cX4_tub 21 = .ok (.dup, 1) := by decide +kernel
theorem dX4_tub_22 : decode cX4_tub 22 = .ok (.getfield 30, 3) := by decide +kernel
theorem dX4_tub_25 : decode cX4_tub 25 = .ok (.iconst 1, 1) := by decide +kernel
theorem dX4_tub_26 : decode cX4_tub 26 = .ok (.iadd, 1) := by decide +kernel
theorem dX4_tub_27 : decode cX4_tub 27 = .ok (.putfield 30, 3) := by decide +kernel
theorem dX4_tub_30 : decode cX4_tub 30 = .ok (.aload_n 0, 1) := by decide +kernel
theorem dX4_tub_31 : decode cX4_tub 31 = .ok (.getfield 30, 3) := by decide +kernel
theorem dX4_tub_34 : decode cX4_tub 34 = .ok (.iconst 1, 1) := by decide +kernel
theorem dX4_tub_35 : decode cX4_tub 35 = .ok (.isub, 1) := by decide +kernel
theorem dX4_tub_36 : decode cX4_tub 36 = .ok (.ireturn, 1) := by decide +kernel
set_option maxRecDepth 20000 in
theorem ggX4_packed_X4_ch : GoodIn wsX4_packed wsX4_ch := goodIn_r _ [9, 10, 11, 12, 13, 14, 15, 16] (by decide +kernel) (by decide +kernel)
set_option maxRecDepth 20000 in
theorem gX4_packed_X4_ch : GoodIn wsX4_packed (wsV RX4 46 RX4 yX4_ch wsX4_ch) := goodIn_app (goodIn_of _ (by decide +kernel)) ggX4_packed_X4_ch
theorem dX4_packed_0 : decode cX4_packed 0 = .ok (.bipush 30, 2) := by decide +kernel
theorem dX4_packed_2 : decode cX4_packed 2 = .ok (.aload_n 0, 1) := by decide +kernel
theorem dX4_packed_3 : decode cX4_packed 3 = .ok (.iload_n 1, 1) := by decide +kernel
theorem dX4_packed_4 : decode cX4_packed 4 = .ok (.iconst 0, 1) := by decide +kernel
theorem dX4_packed_5 : decode cX4_packed 5 = .ok (.invokevirtual 46, 3) := by decide +kernel
theorem dX4_packed_8 : decode cX4_packed 8 = .ok (.iload_n 2, 1) := by decide +kernel
theorem dX4_packed_9 : decode cX4_packed 9 = .ok (.iconst 4, 1) := by decide +kernel
theorem dX4_packed_10 : decode cX4_packed 10 = .ok (.idiv, 1) := by decide +kernel
theorem dX4_packed_11 : decode cX4_packed 11 = .ok (.iadd, 1) := by decide +kernel
theorem dX4_packed_12 : decode cX4_packed 12 = .ok (.iload_n 3, 1) := by decide +kernel
theorem dX4_packed_13 : decode cX4_packed 13 = .ok (.iload_n 2, 1) := by decide +kernel
theorem dX4_packed_14 : decode cX4_packed 14 = .ok (.iconst 4, 1) := by decide +kernel
theorem dX4_packed_15 : decode cX4_packed 15 = .ok (.idiv, 1) := by decide +kernel
theorem dX4_packed_16 : decode cX4_packed 16 = .ok (.iconst 2, 1) := by decide +kernel
theorem dX4_packed_17 : decode cX4_packed 17 = .ok (.imul, 1) := by decide +kernel
theorem dX4_packed_18 : decode cX4_packed 18 = .ok (.invokestatic 40, 3) := by decide +kernel
theorem dX4_packed_21 : decode cX4_packed 21 = .ok (.iadd, 1) := by decide +kernel
theorem dX4_packed_22 : decode cX4_packed 22 = .ok (.invokestatic 40, 3) := by decide +kernel
theorem dX4_packed_25 : decode cX4_packed 25 = .ok (.ireturn, 1) := by decide +kernel
set_option maxRecDepth 20000 in
theorem ggX4_pack_X4_isChurn : GoodIn wsX4_pack wsX4_isChurn := goodIn_r _ [7, 8, 9, 10, 6, 11, 32, 33, 34, 35, 36, 37] (by decide +kernel) (by decide +kernel)
set_option maxRecDepth 20000 in
theorem gX4_pack_X4_isChurn : GoodIn wsX4_pack (wsV RX4 49 RX4 yX4_isChurn wsX4_isChurn) := goodIn_app (goodIn_of _ (by decide +kernel)) ggX4_pack_X4_isChurn
set_option maxRecDepth 20000 in
theorem ggX4_pack_X4_no : GoodIn wsX4_pack wsX4_no := goodIn_r _ [15, 1, 32, 33, 34, 35, 36, 37] (by decide +kernel) (by decide +kernel)
set_option maxRecDepth 20000 in
theorem gX4_pack_X4_no : GoodIn wsX4_pack (wsV RX4 33 RX4 yX4_no wsX4_no) := goodIn_app (goodIn_of _ (by decide +kernel)) ggX4_pack_X4_no
set_option maxRecDepth 20000 in
theorem ggX4_pack_X4_isIn : GoodIn wsX4_pack wsX4_isIn := goodIn_r _ [11] (by decide +kernel) (by decide +kernel)
set_option maxRecDepth 20000 in
theorem gX4_pack_X4_isIn : GoodIn wsX4_pack (va_wsS RX4 26 yX4_isIn wsX4_isIn) := goodIn_app (goodIn_of _ (by decide +kernel)) ggX4_pack_X4_isIn
set_option maxRecDepth 20000 in
theorem ggX4_pack_X4_packed : GoodIn wsX4_pack wsX4_packed := goodIn_r _ [19, 20, 21, 22, 23, 24, 25, 26, 6, 27, 2, 32, 33, 34, 35, 36, 37] (by decide +kernel) (by decide +kernel)
set_option maxRecDepth 20000 in
theorem gX4_pack_X4_packed : GoodIn wsX4_pack (wsV RX4 53 RX4 yX4_packed wsX4_packed) := goodIn_app (goodIn_of _ (by decide +kernel)) ggX4_pack_X4_packed
set_option maxRecDepth 20000 in
theorem ggX4_pack_X4_setChurn : GoodIn wsX4_pack wsX4_setChurn := goodIn_r _ [31, 2, 32, 33, 34, 35, 36, 37] (by decide +kernel) (by decide +kernel)
set_option maxRecDepth 20000 in
theorem gX4_pack_X4_setChurn : GoodIn wsX4_pack (wsV RX4 57 RX4 yX4_setChurn wsX4_setChurn) := goodIn_app (goodIn_of _ (by decide +kernel)) ggX4_pack_X4_setChurn
set_option maxRecDepth 20000 in
theorem ggX4_pack_X4_ch : GoodIn wsX4_pack wsX4_ch := goodIn_r _ [27, 2, 32, 33, 34, 35, 36, 37] (by decide +kernel) (by decide +kernel)
set_option maxRecDepth 20000 in
theorem gX4_pack_X4_ch : GoodIn wsX4_pack (wsV RX4 46 RX4 yX4_ch wsX4_ch) := goodIn_app (goodIn_of _ (by decide +kernel)) ggX4_pack_X4_ch
theorem dX4_pack_0 : decode cX4_pack 0 = .ok (.aload_n 0, 1) := by decide +kernel
theorem dX4_pack_1 : decode cX4_pack 1 = .ok (.iconst 0, 1) := by decide +kernel
theorem dX4_pack_2 : decode cX4_pack 2 = .ok (.putfield 19, 3) := by decide +kernel
theorem dX4_pack_5 : decode cX4_pack 5 = .ok (.aload_n 0, 1) := by decide +kernel
theorem dX4_pack_6 : decode cX4_pack 6 = .ok (.iload_n 1, 1) := by decide +kernel
theorem dX4_pack_7 : decode cX4_pack 7 = .ok (.invokevirtual 49, 3) := by decide +kernel
theorem dX4_pack_10 : decode cX4_pack 10 = .ok (.ifCond .ne 9, 3) := by decide +kernel
theorem dX4_pack_13 : decode cX4_pack 13 = .ok (.aload_n 0, 1) := by decide +kernel
theorem dX4_pack_14 : decode cX4_pack 14 = .ok (.iconst 1, 1) := by decide +kernel
theorem dX4_pack_15 : decode cX4_pack 15 = .ok (.invokevirtual 33, 3) := by decide +kernel
theorem dX4_pack_18 : decode cX4_pack 18 = .ok (.ireturn, 1) := by decide +kernel
theorem dX4_pack_19 : decode cX4_pack 19 = .ok (.iload_n 2, 1) := by decide +kernel
theorem dX4_pack_20 : decode cX4_pack 20 = .ok (.iconst 0, 1) := by decide +kernel
theorem dX4_pack_21 : decode cX4_pack 21 = .ok (.bipush 60, 2) := by decide +kernel
theorem dX4_pack_23 : decode cX4_pack 23 = .ok (.invokestatic 26, 3) := by decide +kernel
theorem dX4_pack_26 : decode cX4_pack 26 = .ok (.ifCond .eq 13, 3) := by decide +kernel
theorem dX4_pack_29 : decode cX4_pack 29 = .ok (.iload_n 3, 1) := by decide +kernel
theorem dX4_pack_30 : decode cX4_pack 30 = .ok (.iconst 0, 1) := by decide +kernel
theorem dX4_pack_31 : decode cX4_pack 31 = .ok (.bipush 60, 2) := by decide +kernel
theorem dX4_pack_33 : decode cX4_pack 33 = .ok (.invokestatic 26, 3) := by decide +kernel
theorem dX4_pack_36 : decode cX4_pack 36 = .ok (.ifCond .ne 9, 3) := by decide +kernel
theorem dX4_pack_39 : decode cX4_pack 39 = .ok (.aload_n 0, 1) := by decide +kernel
theorem dX4_pack_40 : decode cX4_pack 40 = .ok (.iconst 2, 1) := by decide +kernel
theorem dX4_pack_41 : decode cX4_pack 41 = .ok (.invokevirtual 33, 3) := by decide +kernel
theorem dX4_pack_44 : decode cX4_pack 44 = .ok (.ireturn, 1) := by decide +kernel
theorem dX4_pack_45 : decode cX4_pack 45 = .ok (.aload_n 0, 1) := by decide +kernel
theorem dX4_pack_46 : decode cX4_pack 46 = .ok (.getfield 9, 3) := by decide +kernel
theorem dX4_pack_49 : decode cX4_pack 49 = .ok (.iconst 1, 1) := by decide +kernel
theorem dX4_pack_50 : decode cX4_pack 50 = .ok (.iaload, 1) := by decide +kernel
theorem dX4_pack_51 : decode cX4_pack 51 = .ok (.iload_n 2, 1) := by decide +kernel
theorem dX4_pack_52 : decode cX4_pack 52 = .ok (.if_icmp .lt 13, 3) := by decide +kernel
theorem dX4_pack_55 : decode cX4_pack 55 = .ok (.aload_n 0, 1) := by decide +kernel
theorem dX4_pack_56 : decode cX4_pack 56 = .ok (.getfield 9, 3) := by decide +kernel
theorem dX4_pack_59 : decode cX4_pack 59 = .ok (.iconst 2, 1) := by decide +kernel
theorem dX4_pack_60 : decode cX4_pack 60 = .ok (.iaload, 1) := by decide +kernel
theorem dX4_pack_61 : decode cX4_pack 61 = .ok (.iload_n 3, 1) := by decide +kernel
theorem dX4_pack_62 : decode cX4_pack 62 = .ok (.if_icmp .ge 9, 3) := by decide +kernel
theorem dX4_pack_65 : decode cX4_pack 65 = .ok (.aload_n 0, 1) := by decide +kernel
theorem dX4_pack_66 : decode cX4_pack 66 = .ok (.iconst 3, 1) := by decide +kernel
theorem dX4_pack_67 : decode cX4_pack 67 = .ok (.invokevirtual 33, 3) := by decide +kernel
theorem dX4_pack_70 : decode cX4_pack 70 = .ok (.ireturn, 1) := by decide +kernel
theorem dX4_pack_71 : decode cX4_pack 71 = .ok (.aload_n 0, 1) := by decide +kernel
theorem dX4_pack_72 : decode cX4_pack 72 = .ok (.getfield 9, 3) := by decide +kernel
theorem dX4_pack_75 : decode cX4_pack 75 = .ok (.iconst 1, 1) := by decide +kernel
theorem dX4_pack_76 : decode cX4_pack 76 = .ok (.dup2, 1) := by decide +kernel
theorem dX4_pack_77 : decode cX4_pack 77 = .ok (.iaload, 1) := by decide +kernel
theorem dX4_pack_78 : decode cX4_pack 78 = .ok (.iload_n 2, 1) := by decide +kernel
theorem dX4_pack_79 : decode cX4_pack 79 = .ok (.isub, 1) := by decide +kernel
theorem dX4_pack_80 : decode cX4_pack 80 = .ok (.iastore, 1) := by decide +kernel
theorem dX4_pack_81 : decode cX4_pack 81 = .ok (.aload_n 0, 1) := by decide +kernel
theorem dX4_pack_82 : decode cX4_pack 82 = .ok (.getfield 9, 3) := by decide +kernel
theorem dX4_pack_85 : decode cX4_pack 85 = .ok (.iconst 2, 1) := by decide +kernel
theorem dX4_pack_86 : decode cX4_pack 86 = .ok (.dup2, 1) := by decide +kernel
theorem dX4_pack_87 : decode cX4_pack 87 = .ok (.iaload, 1) := by decide +kernel
theorem dX4_pack_88 : decode cX4_pack 88 = .ok (.iload_n 3, 1) := by decide +kernel
theorem dX4_pack_89 : decode cX4_pack 89 = .ok (.isub, 1) := by decide +kernel
theorem dX4_pack_90 : decode cX4_pack 90 = .ok (.iastore, 1) := by decide +kernel
theorem dX4_pack_91 : decode cX4_pack 91 = .ok (.aload_n 0, 1) := by decide +kernel
theorem dX4_pack_92 : decode cX4_pack 92 = .ok (.iload_n 1, 1) := by decide +kernel
theorem dX4_pack_93 : decode cX4_pack 93 = .ok (.iconst 0, 1) := by decide +kernel
theorem dX4_pack_94 : decode cX4_pack 94 = .ok (.aload_n 0, 1) := by decide +kernel
theorem dX4_pack_95 : decode cX4_pack 95 = .ok (.iload_n 1, 1) := by decide +kernel
theorem dX4_pack_96 : decode cX4_pack 96 = .ok (.iload_n 2, 1) := by decide +kernel
theorem dX4_pack_97 : decode cX4_pack 97 = .ok (.iload_n 3, 1) := by decide +kernel
theorem dX4_pack_98 : decode cX4_pack 98 = .ok (.invokevirtual 53, 3) := by decide +kernel
theorem dX4_pack_101 : decode cX4_pack 101 = .ok (.invokevirtual 57, 3) := by decide +kernel
theorem dX4_pack_104 : decode cX4_pack 104 = .ok (.aload_n 0, 1) := by decide +kernel
theorem dX4_pack_105 : decode cX4_pack 105 = .ok (.iload_n 1, 1) := by decide +kernel
theorem dX4_pack_106 : decode cX4_pack 106 = .ok (.iconst 0, 1) := by decide +kernel
theorem dX4_pack_107 : decode cX4_pack 107 = .ok (.invokevirtual 46, 3) := by decide +kernel
theorem dX4_pack_110 : decode cX4_pack 110 = .ok (.ireturn, 1) := by decide +kernel
set_option maxRecDepth 20000 in
theorem ggX4_pour_X4_isChurn : GoodIn wsX4_pour wsX4_isChurn := goodIn_r _ [7, 8, 9, 10, 6, 11, 24, 25, 26, 27, 28, 29] (by decide +kernel) (by decide +kernel)
set_option maxRecDepth 20000 in
theorem gX4_pour_X4_isChurn : GoodIn wsX4_pour (wsV RX4 49 RX4 yX4_isChurn wsX4_isChurn) := goodIn_app (goodIn_of _ (by decide +kernel)) ggX4_pour_X4_isChurn
set_option maxRecDepth 20000 in
theorem ggX4_pour_X4_no : GoodIn wsX4_pour wsX4_no := goodIn_r _ [15, 1, 24, 25, 26, 27, 28, 29] (by decide +kernel) (by decide +kernel)
set_option maxRecDepth 20000 in
theorem gX4_pour_X4_no : GoodIn wsX4_pour (wsV RX4 33 RX4 yX4_no wsX4_no) := goodIn_app (goodIn_of _ (by decide +kernel)) ggX4_pour_X4_no
set_option maxRecDepth 20000 in
theorem ggX4_pour_X4_isIn : GoodIn wsX4_pour wsX4_isIn := goodIn_r _ [11] (by decide +kernel) (by decide +kernel)
set_option maxRecDepth 20000 in
theorem gX4_pour_X4_isIn : GoodIn wsX4_pour (va_wsS RX4 26 yX4_isIn wsX4_isIn) := goodIn_app (goodIn_of _ (by decide +kernel)) ggX4_pour_X4_isIn
set_option maxRecDepth 20000 in
theorem ggX4_pour_X4_ch : GoodIn wsX4_pour wsX4_ch := goodIn_r _ [19, 2, 24, 25, 26, 27, 28, 29] (by decide +kernel) (by decide +kernel)
set_option maxRecDepth 20000 in
theorem gX4_pour_X4_ch : GoodIn wsX4_pour (wsV RX4 46 RX4 yX4_ch wsX4_ch) := goodIn_app (goodIn_of _ (by decide +kernel)) ggX4_pour_X4_ch
set_option maxRecDepth 20000 in
theorem ggX4_pour_X4_setChurn : GoodIn wsX4_pour wsX4_setChurn := goodIn_r _ [23, 2, 24, 25, 26, 27, 28, 29] (by decide +kernel) (by decide +kernel)
set_option maxRecDepth 20000 in
theorem gX4_pour_X4_setChurn : GoodIn wsX4_pour (wsV RX4 57 RX4 yX4_setChurn wsX4_setChurn) := goodIn_app (goodIn_of _ (by decide +kernel)) ggX4_pour_X4_setChurn
theorem dX4_pour_0 : decode cX4_pour 0 = .ok (.aload_n 0, 1) := by decide +kernel
theorem dX4_pour_1 : decode cX4_pour 1 = .ok (.iconst 0, 1) := by decide +kernel
theorem dX4_pour_2 : decode cX4_pour 2 = .ok (.putfield 19, 3) := by decide +kernel
theorem dX4_pour_5 : decode cX4_pour 5 = .ok (.aload_n 0, 1) := by decide +kernel
theorem dX4_pour_6 : decode cX4_pour 6 = .ok (.iload_n 1, 1) := by decide +kernel
theorem dX4_pour_7 : decode cX4_pour 7 = .ok (.invokevirtual 49, 3) := by decide +kernel
theorem dX4_pour_10 : decode cX4_pour 10 = .ok (.ifCond .ne 9, 3) := by decide +kernel
theorem dX4_pour_13 : decode cX4_pour 13 = .ok (.aload_n 0, 1) := by decide +kernel
theorem dX4_pour_14 : decode cX4_pour 14 = .ok (.iconst 1, 1) := by decide +kernel
theorem dX4_pour_15 : decode cX4_pour 15 = .ok (.invokevirtual 33, 3) := by decide +kernel
theorem dX4_pour_18 : decode cX4_pour 18 = .ok (.ireturn, 1) := by decide +kernel
theorem dX4_pour_19 : decode cX4_pour 19 = .ok (.iload_n 2, 1) := by decide +kernel
theorem dX4_pour_20 : decode cX4_pour 20 = .ok (.iconst 1, 1) := by decide +kernel
theorem dX4_pour_21 : decode cX4_pour 21 = .ok (.bipush 20, 2) := by decide +kernel
theorem dX4_pour_23 : decode cX4_pour 23 = .ok (.invokestatic 26, 3) := by decide +kernel
theorem dX4_pour_26 : decode cX4_pour 26 = .ok (.ifCond .ne 9, 3) := by decide +kernel
theorem dX4_pour_29 : decode cX4_pour 29 = .ok (.aload_n 0, 1) := by decide +kernel
theorem dX4_pour_30 : decode cX4_pour 30 = .ok (.iconst 2, 1) := by decide +kernel
theorem dX4_pour_31 : decode cX4_pour 31 = .ok (.invokevirtual 33, 3) := by decide +kernel
theorem dX4_pour_34 : decode cX4_pour 34 = .ok (.ireturn, 1) := by decide +kernel
theorem dX4_pour_35 : decode cX4_pour 35 = .ok (.aload_n 0, 1) := by decide +kernel
theorem dX4_pour_36 : decode cX4_pour 36 = .ok (.iload_n 1, 1) := by decide +kernel
theorem dX4_pour_37 : decode cX4_pour 37 = .ok (.iconst 1, 1) := by decide +kernel
theorem dX4_pour_38 : decode cX4_pour 38 = .ok (.invokevirtual 46, 3) := by decide +kernel
theorem dX4_pour_41 : decode cX4_pour 41 = .ok (.istore_n 3, 1) := by decide +kernel
theorem dX4_pour_42 : decode cX4_pour 42 = .ok (.aload_n 0, 1) := by decide +kernel
theorem dX4_pour_43 : decode cX4_pour 43 = .ok (.getfield 9, 3) := by decide +kernel
theorem dX4_pour_46 : decode cX4_pour 46 = .ok (.iconst 3, 1) := by decide +kernel
theorem dX4_pour_47 : decode cX4_pour 47 = .ok (.iaload, 1) := by decide +kernel
theorem dX4_pour_48 : decode cX4_pour 48 = .ok (.iload_n 2, 1) := by decide +kernel
theorem dX4_pour_49 : decode cX4_pour 49 = .ok (.if_icmp .lt 11, 3) := by decide +kernel
theorem dX4_pour_52 : decode cX4_pour 52 = .ok (.iload_n 3, 1) := by decide +kernel
theorem dX4_pour_53 : decode cX4_pour 53 = .ok (.iload_n 2, 1) := by decide +kernel
theorem dX4_pour_54 : decode cX4_pour 54 = .ok (.iadd, 1) := by decide +kernel
theorem dX4_pour_55 : decode cX4_pour 55 = .ok (.bipush 20, 2) := by decide +kernel
theorem dX4_pour_57 : decode cX4_pour 57 = .ok (.if_icmp .le 9, 3) := by decide +kernel
theorem dX4_pour_60 : decode cX4_pour 60 = .ok (.aload_n 0, 1) := by decide +kernel
theorem dX4_pour_61 : decode cX4_pour 61 = .ok (.iconst 3, 1) := by decide +kernel
theorem dX4_pour_62 : decode cX4_pour 62 = .ok (.invokevirtual 33, 3) := by decide +kernel
theorem dX4_pour_65 : decode cX4_pour 65 = .ok (.ireturn, 1) := by decide +kernel
theorem dX4_pour_66 : decode cX4_pour 66 = .ok (.aload_n 0, 1) := by decide +kernel
theorem dX4_pour_67 : decode cX4_pour 67 = .ok (.getfield 9, 3) := by decide +kernel
theorem dX4_pour_70 : decode cX4_pour 70 = .ok (.iconst 3, 1) := by decide +kernel
theorem dX4_pour_71 : decode cX4_pour 71 = .ok (.dup2, 1) := by decide +kernel
theorem dX4_pour_72 : decode cX4_pour 72 = .ok (.iaload, 1) := by decide +kernel
theorem dX4_pour_73 : decode cX4_pour 73 = .ok (.iload_n 2, 1) := by decide +kernel
theorem dX4_pour_74 : decode cX4_pour 74 = .ok (.isub, 1) := by decide +kernel
theorem dX4_pour_75 : decode cX4_pour 75 = .ok (.iastore, 1) := by decide +kernel
theorem dX4_pour_76 : decode cX4_pour 76 = .ok (.aload_n 0, 1) := by decide +kernel
theorem dX4_pour_77 : decode cX4_pour 77 = .ok (.iload_n 1, 1) := by decide +kernel
theorem dX4_pour_78 : decode cX4_pour 78 = .ok (.iconst 2, 1) := by decide +kernel
theorem dX4_pour_79 : decode cX4_pour 79 = .ok (.aload_n 0, 1) := by decide +kernel
theorem dX4_pour_80 : decode cX4_pour 80 = .ok (.iload_n 1, 1) := by decide +kernel
theorem dX4_pour_81 : decode cX4_pour 81 = .ok (.iconst 2, 1) := by decide +kernel
theorem dX4_pour_82 : decode cX4_pour 82 = .ok (.invokevirtual 46, 3) := by decide +kernel
theorem dX4_pour_85 : decode cX4_pour 85 = .ok (.iload_n 3, 1) := by decide +kernel
theorem dX4_pour_86 : decode cX4_pour 86 = .ok (.imul, 1) := by decide +kernel
theorem dX4_pour_87 : decode cX4_pour 87 = .ok (.iload_n 3, 1) := by decide +kernel
theorem dX4_pour_88 : decode cX4_pour 88 = .ok (.iload_n 2, 1) := by decide +kernel
theorem dX4_pour_89 : decode cX4_pour 89 = .ok (.iadd, 1) := by decide +kernel
theorem dX4_pour_90 : decode cX4_pour 90 = .ok (.idiv, 1) := by decide +kernel
theorem dX4_pour_91 : decode cX4_pour 91 = .ok (.invokevirtual 57, 3) := by decide +kernel
theorem dX4_pour_94 : decode cX4_pour 94 = .ok (.aload_n 0, 1) := by decide +kernel
theorem dX4_pour_95 : decode cX4_pour 95 = .ok (.iload_n 1, 1) := by decide +kernel
theorem dX4_pour_96 : decode cX4_pour 96 = .ok (.iconst 1, 1) := by decide +kernel
theorem dX4_pour_97 : decode cX4_pour 97 = .ok (.iload_n 3, 1) := by decide +kernel
theorem dX4_pour_98 : decode cX4_pour 98 = .ok (.iload_n 2, 1) := by decide +kernel
theorem dX4_pour_99 : decode cX4_pour 99 = .ok (.iadd, 1) := by decide +kernel
theorem dX4_pour_100 : decode cX4_pour 100 = .ok (.invokevirtual 57, 3) := by decide +kernel
theorem dX4_pour_103 : decode cX4_pour 103 = .ok (.aload_n 0, 1) := by decide +kernel
theorem dX4_pour_104 : decode cX4_pour 104 = .ok (.iload_n 1, 1) := by decide +kernel
theorem dX4_pour_105 : decode cX4_pour 105 = .ok (.iconst 2, 1) := by decide +kernel
theorem dX4_pour_106 : decode cX4_pour 106 = .ok (.invokevirtual 46, 3) := by decide +kernel
theorem dX4_pour_109 : decode cX4_pour 109 = .ok (.ireturn, 1) := by decide +kernel
set_option maxRecDepth 20000 in
theorem ggX4_scoop_X4_isChurn : GoodIn wsX4_scoop wsX4_isChurn := goodIn_r _ [13, 14, 15, 16, 12, 17, 44, 45, 46, 47, 48, 49] (by decide +kernel) (by decide +kernel)
set_option maxRecDepth 20000 in
theorem gX4_scoop_X4_isChurn : GoodIn wsX4_scoop (wsV RX4 49 RX4 yX4_isChurn wsX4_isChurn) := goodIn_app (goodIn_of _ (by decide +kernel)) ggX4_scoop_X4_isChurn
set_option maxRecDepth 20000 in
theorem ggX4_scoop_X4_isTub : GoodIn wsX4_scoop wsX4_isTub := goodIn_r _ [21, 22, 15, 16, 12, 17, 44, 45, 46, 47, 48, 49] (by decide +kernel) (by decide +kernel)
set_option maxRecDepth 20000 in
theorem gX4_scoop_X4_isTub : GoodIn wsX4_scoop (wsV RX4 61 RX4 yX4_isTub wsX4_isTub) := goodIn_app (goodIn_of _ (by decide +kernel)) ggX4_scoop_X4_isTub
set_option maxRecDepth 20000 in
theorem ggX4_scoop_X4_no : GoodIn wsX4_scoop wsX4_no := goodIn_r _ [26, 1, 44, 45, 46, 47, 48, 49] (by decide +kernel) (by decide +kernel)
set_option maxRecDepth 20000 in
theorem gX4_scoop_X4_no : GoodIn wsX4_scoop (wsV RX4 33 RX4 yX4_no wsX4_no) := goodIn_app (goodIn_of _ (by decide +kernel)) ggX4_scoop_X4_no
set_option maxRecDepth 20000 in
theorem ggX4_scoop_X4_ch : GoodIn wsX4_scoop wsX4_ch := goodIn_r _ [30, 31, 44, 45, 46, 47, 48, 49] (by decide +kernel) (by decide +kernel)
set_option maxRecDepth 20000 in
theorem gX4_scoop_X4_ch : GoodIn wsX4_scoop (wsV RX4 46 RX4 yX4_ch wsX4_ch) := goodIn_app (goodIn_of _ (by decide +kernel)) ggX4_scoop_X4_ch
set_option maxRecDepth 20000 in
theorem ggX4_scoop_X4_tu : GoodIn wsX4_scoop wsX4_tu := goodIn_r _ [35, 31, 44, 45, 46, 47, 48, 49] (by decide +kernel) (by decide +kernel)
set_option maxRecDepth 20000 in
theorem gX4_scoop_X4_tu : GoodIn wsX4_scoop (wsV RX4 64 RX4 yX4_tu wsX4_tu) := goodIn_app (goodIn_of _ (by decide +kernel)) ggX4_scoop_X4_tu
set_option maxRecDepth 20000 in
theorem ggX4_scoop_X4_setTub : GoodIn wsX4_scoop wsX4_setTub := goodIn_r _ [39, 31, 44, 45, 46, 47, 48, 49] (by decide +kernel) (by decide +kernel)
set_option maxRecDepth 20000 in
theorem gX4_scoop_X4_setTub : GoodIn wsX4_scoop (wsV RX4 67 RX4 yX4_setTub wsX4_setTub) := goodIn_app (goodIn_of _ (by decide +kernel)) ggX4_scoop_X4_setTub
set_option maxRecDepth 20000 in
theorem ggX4_scoop_X4_setChurn : GoodIn wsX4_scoop wsX4_setChurn := goodIn_r _ [43, 31, 44, 45, 46, 47, 48, 49] (by decide +kernel) (by decide +kernel)
set_option maxRecDepth 20000 in
theorem gX4_scoop_X4_setChurn : GoodIn wsX4_scoop (wsV RX4 57 RX4 yX4_setChurn wsX4_setChurn) := goodIn_app (goodIn_of _ (by decide +kernel)) ggX4_scoop_X4_setChurn
theorem dX4_scoop_0 : decode cX4_scoop 0 = .ok (.aload_n 0, 1) := by decide +kernel
theorem dX4_scoop_1 : decode cX4_scoop 1 = .ok (.iconst 0, 1) := by decide +kernel
theorem dX4_scoop_2 : decode cX4_scoop 2 = .ok (.putfield 19, 3) := by decide +kernel
theorem dX4_scoop_5 : decode cX4_scoop 5 = .ok (.aload_n 0, 1) := by decide +kernel
theorem dX4_scoop_6 : decode cX4_scoop 6 = .ok (.iload_n 1, 1) := by decide +kernel
theorem dX4_scoop_7 : decode cX4_scoop 7 = .ok (.invokevirtual 49, 3) := by decide +kernel
theorem dX4_scoop_10 : decode cX4_scoop 10 = .ok (.ifCond .eq 11, 3) := by decide +kernel
theorem dX4_scoop_13 : decode cX4_scoop 13 = .ok (.aload_n 0, 1) := by decide +kernel
theorem dX4_scoop_14 : decode cX4_scoop 14 = .ok (.iload_n 2, 1) := by decide +kernel
theorem dX4_scoop_15 : decode cX4_scoop 15 = .ok (.invokevirtual 61, 3) := by decide +kernel
theorem dX4_scoop_18 : decode cX4_scoop 18 = .ok (.ifCond .ne 9, 3) := by decide +kernel
theorem dX4_scoop_21 : decode cX4_scoop 21 = .ok (.aload_n 0, 1) := by decide +kernel
end
section
theorem dX4_scoop_22 : decode cX4_scoop 22 = .ok (.iconst 1, 1) := by decide +kernel
theorem dX4_scoop_23 : decode cX4_scoop 23 = .ok (.invokevirtual 33, 3) := by decide +kernel
theorem dX4_scoop_26 : decode cX4_scoop 26 = .ok (.ireturn, 1) := by decide +kernel
theorem dX4_scoop_27 : decode cX4_scoop 27 = .ok (.aload_n 0, 1) := by decide +kernel
theorem dX4_scoop_28 : decode cX4_scoop 28 = .ok (.iload_n 1, 1) := by decide +kernel
theorem dX4_scoop_29 : decode cX4_scoop 29 = .ok (.iconst 1, 1) := by decide +kernel
theorem dX4_scoop_30 : decode cX4_scoop 30 = .ok (.invokevirtual 46, 3) := by decide +kernel
theorem dX4_scoop_33 : decode cX4_scoop 33 = .ok (.ifCond .eq 14, 3) := by decide +kernel
theorem dX4_scoop_36 : decode cX4_scoop 36 = .ok (.aload_n 0, 1) := by decide +kernel
theorem dX4_scoop_37 : decode cX4_scoop 37 = .ok (.iload_n 1, 1) := by decide +kernel
theorem dX4_scoop_38 : decode cX4_scoop 38 = .ok (.iconst 2, 1) := by decide +kernel
theorem dX4_scoop_39 : decode cX4_scoop 39 = .ok (.invokevirtual 46, 3) := by decide +kernel
theorem dX4_scoop_42 : decode cX4_scoop 42 = .ok (.bipush 50, 2) := by decide +kernel
theorem dX4_scoop_44 : decode cX4_scoop 44 = .ok (.if_icmp .ge 9, 3) := by decide +kernel
theorem dX4_scoop_47 : decode cX4_scoop 47 = .ok (.aload_n 0, 1) := by decide +kernel
theorem dX4_scoop_48 : decode cX4_scoop 48 = .ok (.iconst 2, 1) := by decide +kernel
theorem dX4_scoop_49 : decode cX4_scoop 49 = .ok (.invokevirtual 33, 3) := by decide +kernel
theorem dX4_scoop_52 : decode cX4_scoop 52 = .ok (.ireturn, 1) := by decide +kernel
theorem dX4_scoop_53 : decode cX4_scoop 53 = .ok (.aload_n 0, 1) := by decide +kernel
theorem dX4_scoop_54 : decode cX4_scoop 54 = .ok (.iload_n 2, 1) := by decide +kernel
theorem dX4_scoop_55 : decode cX4_scoop 55 = .ok (.iconst 0, 1) := by decide +kernel
theorem dX4_scoop_56 : decode cX4_scoop 56 = .ok (.bipush 60, 2) := by decide +kernel
theorem dX4_scoop_58 : decode cX4_scoop 58 = .ok (.aload_n 0, 1) := by decide +kernel
theorem dX4_scoop_59 : decode cX4_scoop 59 = .ok (.iload_n 2, 1) := by decide +kernel
theorem dX4_scoop_60 : decode cX4_scoop 60 = .ok (.iconst 0, 1) := by decide +kernel
theorem dX4_scoop_61 : decode cX4_scoop 61 = .ok (.invokevirtual 64, 3) := by decide +kernel
theorem dX4_scoop_64 : decode cX4_scoop 64 = .ok (.iconst 2, 1) := by decide +kernel
theorem dX4_scoop_65 : decode cX4_scoop 65 = .ok (.aload_n 0, 1) := by decide +kernel
theorem dX4_scoop_66 : decode cX4_scoop 66 = .ok (.iload_n 1, 1) := by decide +kernel
theorem dX4_scoop_67 : decode cX4_scoop 67 = .ok (.iconst 1, 1) := by decide +kernel
theorem dX4_scoop_68 : decode cX4_scoop 68 = .ok (.invokevirtual 46, 3) := by decide +kernel
theorem dX4_scoop_71 : decode cX4_scoop 71 = .ok (.imul, 1) := by decide +kernel
theorem dX4_scoop_72 : decode cX4_scoop 72 = .ok (.iadd, 1) := by decide +kernel
theorem dX4_scoop_73 : decode cX4_scoop 73 = .ok (.invokestatic 40, 3) := by decide +kernel
theorem dX4_scoop_76 : decode cX4_scoop 76 = .ok (.invokevirtual 67, 3) := by decide +kernel
theorem dX4_scoop_79 : decode cX4_scoop 79 = .ok (.aload_n 0, 1) := by decide +kernel
theorem dX4_scoop_80 : decode cX4_scoop 80 = .ok (.iload_n 2, 1) := by decide +kernel
theorem dX4_scoop_81 : decode cX4_scoop 81 = .ok (.iconst 1, 1) := by decide +kernel
theorem dX4_scoop_82 : decode cX4_scoop 82 = .ok (.aload_n 0, 1) := by decide +kernel
theorem dX4_scoop_83 : decode cX4_scoop 83 = .ok (.iload_n 2, 1) := by decide +kernel
theorem dX4_scoop_84 : decode cX4_scoop 84 = .ok (.iconst 1, 1) := by decide +kernel
theorem dX4_scoop_85 : decode cX4_scoop 85 = .ok (.invokevirtual 64, 3) := by decide +kernel
theorem dX4_scoop_88 : decode cX4_scoop 88 = .ok (.bipush 100, 2) := by decide +kernel
theorem dX4_scoop_90 : decode cX4_scoop 90 = .ok (.aload_n 0, 1) := by decide +kernel
theorem dX4_scoop_91 : decode cX4_scoop 91 = .ok (.iload_n 1, 1) := by decide +kernel
theorem dX4_scoop_92 : decode cX4_scoop 92 = .ok (.iconst 2, 1) := by decide +kernel
theorem dX4_scoop_93 : decode cX4_scoop 93 = .ok (.invokevirtual 46, 3) := by decide +kernel
theorem dX4_scoop_96 : decode cX4_scoop 96 = .ok (.isub, 1) := by decide +kernel
theorem dX4_scoop_97 : decode cX4_scoop 97 = .ok (.invokestatic 70, 3) := by decide +kernel
theorem dX4_scoop_100 : decode cX4_scoop 100 = .ok (.invokevirtual 67, 3) := by decide +kernel
theorem dX4_scoop_103 : decode cX4_scoop 103 = .ok (.aload_n 0, 1) := by decide +kernel
theorem dX4_scoop_104 : decode cX4_scoop 104 = .ok (.iload_n 1, 1) := by decide +kernel
theorem dX4_scoop_105 : decode cX4_scoop 105 = .ok (.iconst 1, 1) := by decide +kernel
theorem dX4_scoop_106 : decode cX4_scoop 106 = .ok (.iconst 0, 1) := by decide +kernel
theorem dX4_scoop_107 : decode cX4_scoop 107 = .ok (.invokevirtual 57, 3) := by decide +kernel
theorem dX4_scoop_110 : decode cX4_scoop 110 = .ok (.aload_n 0, 1) := by decide +kernel
theorem dX4_scoop_111 : decode cX4_scoop 111 = .ok (.iload_n 1, 1) := by decide +kernel
theorem dX4_scoop_112 : decode cX4_scoop 112 = .ok (.iconst 2, 1) := by decide +kernel
theorem dX4_scoop_113 : decode cX4_scoop 113 = .ok (.iconst 0, 1) := by decide +kernel
theorem dX4_scoop_114 : decode cX4_scoop 114 = .ok (.invokevirtual 57, 3) := by decide +kernel
theorem dX4_scoop_117 : decode cX4_scoop 117 = .ok (.aload_n 0, 1) := by decide +kernel
theorem dX4_scoop_118 : decode cX4_scoop 118 = .ok (.iload_n 2, 1) := by decide +kernel
theorem dX4_scoop_119 : decode cX4_scoop 119 = .ok (.iconst 0, 1) := by decide +kernel
theorem dX4_scoop_120 : decode cX4_scoop 120 = .ok (.invokevirtual 64, 3) := by decide +kernel
theorem dX4_scoop_123 : decode cX4_scoop 123 = .ok (.ireturn, 1) := by decide +kernel
set_option maxRecDepth 20000 in
theorem ggX4_told_X4_isChurn : GoodIn wsX4_told wsX4_isChurn := goodIn_r _ [6, 7, 8, 9, 5, 10, 20, 21, 22, 23, 24, 25] (by decide +kernel) (by decide +kernel)
set_option maxRecDepth 20000 in
theorem gX4_told_X4_isChurn : GoodIn wsX4_told (wsV RX4 49 RX4 yX4_isChurn wsX4_isChurn) := goodIn_app (goodIn_of _ (by decide +kernel)) ggX4_told_X4_isChurn
set_option maxRecDepth 20000 in
theorem ggX4_told_X4_isIn : GoodIn wsX4_told wsX4_isIn := goodIn_r _ [10] (by decide +kernel) (by decide +kernel)
set_option maxRecDepth 20000 in
theorem gX4_told_X4_isIn : GoodIn wsX4_told (va_wsS RX4 26 yX4_isIn wsX4_isIn) := goodIn_app (goodIn_of _ (by decide +kernel)) ggX4_told_X4_isIn
set_option maxRecDepth 20000 in
theorem ggX4_told_X4_ch : GoodIn wsX4_told wsX4_ch := goodIn_r _ [14, 15, 20, 21, 22, 23, 24, 25] (by decide +kernel) (by decide +kernel)
set_option maxRecDepth 20000 in
theorem gX4_told_X4_ch : GoodIn wsX4_told (wsV RX4 46 RX4 yX4_ch wsX4_ch) := goodIn_app (goodIn_of _ (by decide +kernel)) ggX4_told_X4_ch
set_option maxRecDepth 20000 in
theorem ggX4_told_X4_no : GoodIn wsX4_told wsX4_no := goodIn_r _ [19, 1, 20, 21, 22, 23, 24, 25] (by decide +kernel) (by decide +kernel)
set_option maxRecDepth 20000 in
theorem gX4_told_X4_no : GoodIn wsX4_told (wsV RX4 33 RX4 yX4_no wsX4_no) := goodIn_app (goodIn_of _ (by decide +kernel)) ggX4_told_X4_no
theorem dX4_told_0 : decode cX4_told 0 = .ok (.aload_n 0, 1) := by decide +kernel
theorem dX4_told_1 : decode cX4_told 1 = .ok (.iconst 0, 1) := by decide +kernel
theorem dX4_told_2 : decode cX4_told 2 = .ok (.putfield 19, 3) := by decide +kernel
theorem dX4_told_5 : decode cX4_told 5 = .ok (.aload_n 0, 1) := by decide +kernel
theorem dX4_told_6 : decode cX4_told 6 = .ok (.iload_n 1, 1) := by decide +kernel
theorem dX4_told_7 : decode cX4_told 7 = .ok (.invokevirtual 49, 3) := by decide +kernel
theorem dX4_told_10 : decode cX4_told 10 = .ok (.ifCond .eq 21, 3) := by decide +kernel
theorem dX4_told_13 : decode cX4_told 13 = .ok (.iload_n 2, 1) := by decide +kernel
theorem dX4_told_14 : decode cX4_told 14 = .ok (.iconst 0, 1) := by decide +kernel
theorem dX4_told_15 : decode cX4_told 15 = .ok (.iconst 2, 1) := by decide +kernel
theorem dX4_told_16 : decode cX4_told 16 = .ok (.invokestatic 26, 3) := by decide +kernel
theorem dX4_told_19 : decode cX4_told 19 = .ok (.ifCond .eq 12, 3) := by decide +kernel
theorem dX4_told_22 : decode cX4_told 22 = .ok (.aload_n 0, 1) := by decide +kernel
theorem dX4_told_23 : decode cX4_told 23 = .ok (.iload_n 1, 1) := by decide +kernel
theorem dX4_told_24 : decode cX4_told 24 = .ok (.iload_n 2, 1) := by decide +kernel
theorem dX4_told_25 : decode cX4_told 25 = .ok (.invokevirtual 46, 3) := by decide +kernel
theorem dX4_told_28 : decode cX4_told 28 = .ok (.goto 8, 3) := by decide +kernel
theorem dX4_told_31 : decode cX4_told 31 = .ok (.aload_n 0, 1) := by decide +kernel
theorem dX4_told_32 : decode cX4_told 32 = .ok (.iconst 1, 1) := by decide +kernel
theorem dX4_told_33 : decode cX4_told 33 = .ok (.invokevirtual 33, 3) := by decide +kernel
theorem dX4_told_36 : decode cX4_told 36 = .ok (.ireturn, 1) := by decide +kernel
set_option maxRecDepth 20000 in
theorem ggX4_about_X4_isTub : GoodIn wsX4_about wsX4_isTub := goodIn_r _ [6, 7, 8, 9, 5, 10, 20, 21, 22, 23, 24, 25] (by decide +kernel) (by decide +kernel)
set_option maxRecDepth 20000 in
theorem gX4_about_X4_isTub : GoodIn wsX4_about (wsV RX4 61 RX4 yX4_isTub wsX4_isTub) := goodIn_app (goodIn_of _ (by decide +kernel)) ggX4_about_X4_isTub
set_option maxRecDepth 20000 in
theorem ggX4_about_X4_isIn : GoodIn wsX4_about wsX4_isIn := goodIn_r _ [10] (by decide +kernel) (by decide +kernel)
set_option maxRecDepth 20000 in
theorem gX4_about_X4_isIn : GoodIn wsX4_about (va_wsS RX4 26 yX4_isIn wsX4_isIn) := goodIn_app (goodIn_of _ (by decide +kernel)) ggX4_about_X4_isIn
set_option maxRecDepth 20000 in
theorem ggX4_about_X4_tu : GoodIn wsX4_about wsX4_tu := goodIn_r _ [14, 15, 20, 21, 22, 23, 24, 25] (by decide +kernel) (by decide +kernel)
set_option maxRecDepth 20000 in
theorem gX4_about_X4_tu : GoodIn wsX4_about (wsV RX4 64 RX4 yX4_tu wsX4_tu) := goodIn_app (goodIn_of _ (by decide +kernel)) ggX4_about_X4_tu
set_option maxRecDepth 20000 in
theorem ggX4_about_X4_no : GoodIn wsX4_about wsX4_no := goodIn_r _ [19, 1, 20, 21, 22, 23, 24, 25] (by decide +kernel) (by decide +kernel)
set_option maxRecDepth 20000 in
theorem gX4_about_X4_no : GoodIn wsX4_about (wsV RX4 33 RX4 yX4_no wsX4_no) := goodIn_app (goodIn_of _ (by decide +kernel)) ggX4_about_X4_no
theorem dX4_about_0 : decode cX4_about 0 = .ok (.aload_n 0, 1) := by decide +kernel
theorem dX4_about_1 : decode cX4_about 1 = .ok (.iconst 0, 1) := by decide +kernel
theorem dX4_about_2 : decode cX4_about 2 = .ok (.putfield 19, 3) := by decide +kernel
theorem dX4_about_5 : decode cX4_about 5 = .ok (.aload_n 0, 1) := by decide +kernel
theorem dX4_about_6 : decode cX4_about 6 = .ok (.iload_n 1, 1) := by decide +kernel
theorem dX4_about_7 : decode cX4_about 7 = .ok (.invokevirtual 61, 3) := by decide +kernel
theorem dX4_about_10 : decode cX4_about 10 = .ok (.ifCond .eq 21, 3) := by decide +kernel
theorem dX4_about_13 : decode cX4_about 13 = .ok (.iload_n 2, 1) := by decide +kernel
theorem dX4_about_14 : decode cX4_about 14 = .ok (.iconst 0, 1) := by decide +kernel
theorem dX4_about_15 : decode cX4_about 15 = .ok (.iconst 2, 1) := by decide +kernel
theorem dX4_about_16 : decode cX4_about 16 = .ok (.invokestatic 26, 3) := by decide +kernel
theorem dX4_about_19 : decode cX4_about 19 = .ok (.ifCond .eq 12, 3) := by decide +kernel
theorem dX4_about_22 : decode cX4_about 22 = .ok (.aload_n 0, 1) := by decide +kernel
theorem dX4_about_23 : decode cX4_about 23 = .ok (.iload_n 1, 1) := by decide +kernel
theorem dX4_about_24 : decode cX4_about 24 = .ok (.iload_n 2, 1) := by decide +kernel
theorem dX4_about_25 : decode cX4_about 25 = .ok (.invokevirtual 64, 3) := by decide +kernel
theorem dX4_about_28 : decode cX4_about 28 = .ok (.goto 8, 3) := by decide +kernel
theorem dX4_about_31 : decode cX4_about 31 = .ok (.aload_n 0, 1) := by decide +kernel
theorem dX4_about_32 : decode cX4_about 32 = .ok (.iconst 1, 1) := by decide +kernel
theorem dX4_about_33 : decode cX4_about 33 = .ok (.invokevirtual 33, 3) := by decide +kernel
theorem dX4_about_36 : decode cX4_about 36 = .ok (.ireturn, 1) := by decide +kernel
set_option maxRecDepth 20000 in
theorem ggX4_sum_X4_tu : GoodIn wsX4_sum wsX4_tu := goodIn_r _ [6, 7, 8, 9, 10, 11, 12, 13] (by decide +kernel) (by decide +kernel)
set_option maxRecDepth 20000 in
theorem gX4_sum_X4_tu : GoodIn wsX4_sum (wsV RX4 64 RX4 yX4_tu wsX4_tu) := goodIn_app (goodIn_of _ (by decide +kernel)) ggX4_sum_X4_tu
theorem dX4_sum_0 : decode cX4_sum 0 = .ok (.iconst 0, 1) := by decide +kernel
theorem dX4_sum_1 : decode cX4_sum 1 = .ok (.istore_n 2, 1) := by decide +kernel
theorem dX4_sum_2 : decode cX4_sum 2 = .ok (.iconst 0, 1) := by decide +kernel
theorem dX4_sum_3 : decode cX4_sum 3 = .ok (.istore_n 3, 1) := by decide +kernel
theorem dX4_sum_4 : decode cX4_sum 4 = .ok (.iload_n 3, 1) := by decide +kernel
theorem dX4_sum_5 : decode cX4_sum 5 = .ok (.aload_n 0, 1) := by decide +kernel
theorem dX4_sum_6 : decode cX4_sum 6 = .ok (.getfield 30, 3) := by decide +kernel
theorem dX4_sum_9 : decode cX4_sum 9 = .ok (.if_icmp .ge 18, 3) := by decide +kernel
theorem dX4_sum_12 : decode cX4_sum 12 = .ok (.iload_n 2, 1) := by decide +kernel
theorem dX4_sum_13 : decode cX4_sum 13 = .ok (.aload_n 0, 1) := by decide +kernel
theorem dX4_sum_14 : decode cX4_sum 14 = .ok (.iload_n 3, 1) := by decide +kernel
theorem dX4_sum_15 : decode cX4_sum 15 = .ok (.iload_n 1, 1) := by decide +kernel
theorem dX4_sum_16 : decode cX4_sum 16 = .ok (.invokevirtual 64, 3) := by decide +kernel
theorem dX4_sum_19 : decode cX4_sum 19 = .ok (.iadd, 1) := by decide +kernel
theorem dX4_sum_20 : decode cX4_sum 20 = .ok (.istore_n 2, 1) := by decide +kernel
theorem dX4_sum_21 : decode cX4_sum 21 = .ok (.iinc 3 1, 3) := by decide +kernel
theorem dX4_sum_24 : decode cX4_sum 24 = .ok (.goto (-20), 3) := by decide +kernel
theorem dX4_sum_27 : decode cX4_sum 27 = .ok (.iload_n 2, 1) := by decide +kernel
theorem dX4_sum_28 : decode cX4_sum 28 = .ok (.ireturn, 1) := by decide +kernel
set_option maxRecDepth 20000 in
theorem ggX4_counted_X4_heatNow : GoodIn wsX4_counted wsX4_heatNow := goodIn_r _ [7, 8, 2, 18, 19, 20, 21, 22, 23] (by decide +kernel) (by decide +kernel)
set_option maxRecDepth 20000 in
theorem gX4_counted_X4_heatNow : GoodIn wsX4_counted (wsV RX4 73 RX4 yX4_heatNow wsX4_heatNow) := goodIn_app (goodIn_of _ (by decide +kernel)) ggX4_counted_X4_heatNow
set_option maxRecDepth 20000 in
theorem ggX4_counted_X4_sum : GoodIn wsX4_counted wsX4_sum := goodIn_r _ [12, 13, 14, 15, 16, 6, 17, 2, 18, 19, 20, 21, 22, 23] (by decide +kernel) (by decide +kernel)
set_option maxRecDepth 20000 in
theorem gX4_counted_X4_sum : GoodIn wsX4_counted (wsV RX4 77 RX4 yX4_sum wsX4_sum) := goodIn_app (goodIn_of _ (by decide +kernel)) ggX4_counted_X4_sum
theorem dX4_counted_0 : decode cX4_counted 0 = .ok (.bipush 10, 2) := by decide +kernel
theorem dX4_counted_2 : decode cX4_counted 2 = .ok (.newarray .int, 2) := by decide +kernel
theorem dX4_counted_4 : decode cX4_counted 4 = .ok (.dup, 1) := by decide +kernel
theorem dX4_counted_5 : decode cX4_counted 5 = .ok (.iconst 0, 1) := by decide +kernel
theorem dX4_counted_6 : decode cX4_counted 6 = .ok (.aload_n 0, 1) := by decide +kernel
theorem dX4_counted_7 : decode cX4_counted 7 = .ok (.getfield 9, 3) := by decide +kernel
theorem dX4_counted_10 : decode cX4_counted 10 = .ok (.iconst 0, 1) := by decide +kernel
theorem dX4_counted_11 : decode cX4_counted 11 = .ok (.iaload, 1) := by decide +kernel
theorem dX4_counted_12 : decode cX4_counted 12 = .ok (.iastore, 1) := by decide +kernel
theorem dX4_counted_13 : decode cX4_counted 13 = .ok (.dup, 1) := by decide +kernel
theorem dX4_counted_14 : decode cX4_counted 14 = .ok (.iconst 1, 1) := by decide +kernel
theorem dX4_counted_15 : decode cX4_counted 15 = .ok (.aload_n 0, 1) := by decide +kernel
theorem dX4_counted_16 : decode cX4_counted 16 = .ok (.invokevirtual 73, 3) := by decide +kernel
theorem dX4_counted_19 : decode cX4_counted 19 = .ok (.iastore, 1) := by decide +kernel
theorem dX4_counted_20 : decode cX4_counted 20 = .ok (.dup, 1) := by decide +kernel
theorem dX4_counted_21 : decode cX4_counted 21 = .ok (.iconst 2, 1) := by decide +kernel
theorem dX4_counted_22 : decode cX4_counted 22 = .ok (.aload_n 0, 1) := by decide +kernel
theorem dX4_counted_23 : decode cX4_counted 23 = .ok (.getfield 9, 3) := by decide +kernel
theorem dX4_counted_26 : decode cX4_counted 26 = .ok (.iconst 1, 1) := by decide +kernel
theorem dX4_counted_27 : decode cX4_counted 27 = .ok (.iaload, 1) := by decide +kernel
theorem dX4_counted_28 : decode cX4_counted 28 = .ok (.iastore, 1) := by decide +kernel
theorem dX4_counted_29 : decode cX4_counted 29 = .ok (.dup, 1) := by decide +kernel
theorem dX4_counted_30 : decode cX4_counted 30 = .ok (.iconst 3, 1) := by decide +kernel
theorem dX4_counted_31 : decode cX4_counted 31 = .ok (.aload_n 0, 1) := by decide +kernel
theorem dX4_counted_32 : decode cX4_counted 32 = .ok (.getfield 9, 3) := by decide +kernel
theorem dX4_counted_35 : decode cX4_counted 35 = .ok (.iconst 2, 1) := by decide +kernel
theorem dX4_counted_36 : decode cX4_counted 36 = .ok (.iaload, 1) := by decide +kernel
theorem dX4_counted_37 : decode cX4_counted 37 = .ok (.iastore, 1) := by decide +kernel
theorem dX4_counted_38 : decode cX4_counted 38 = .ok (.dup, 1) := by decide +kernel
theorem dX4_counted_39 : decode cX4_counted 39 = .ok (.iconst 4, 1) := by decide +kernel
theorem dX4_counted_40 : decode cX4_counted 40 = .ok (.aload_n 0, 1) := by decide +kernel
theorem dX4_counted_41 : decode cX4_counted 41 = .ok (.getfield 9, 3) := by decide +kernel
theorem dX4_counted_44 : decode cX4_counted 44 = .ok (.iconst 3, 1) := by decide +kernel
theorem dX4_counted_45 : decode cX4_counted 45 = .ok (.iaload, 1) := by decide +kernel
theorem dX4_counted_46 : decode cX4_counted 46 = .ok (.iastore, 1) := by decide +kernel
theorem dX4_counted_47 : decode cX4_counted 47 = .ok (.dup, 1) := by decide +kernel
theorem dX4_counted_48 : decode cX4_counted 48 = .ok (.iconst 5, 1) := by decide +kernel
theorem dX4_counted_49 : decode cX4_counted 49 = .ok (.aload_n 0, 1) := by decide +kernel
theorem dX4_counted_50 : decode cX4_counted 50 = .ok (.getfield 9, 3) := by decide +kernel
theorem dX4_counted_53 : decode cX4_counted 53 = .ok (.iconst 4, 1) := by decide +kernel
theorem dX4_counted_54 : decode cX4_counted 54 = .ok (.iaload, 1) := by decide +kernel
theorem dX4_counted_55 : decode cX4_counted 55 = .ok (.iastore, 1) := by decide +kernel
theorem dX4_counted_56 : decode cX4_counted 56 = .ok (.dup, 1) := by decide +kernel
theorem dX4_counted_57 : decode cX4_counted 57 = .ok (.bipush 6, 2) := by decide +kernel
theorem dX4_counted_59 : decode cX4_counted 59 = .ok (.aload_n 0, 1) := by decide +kernel
theorem dX4_counted_60 : decode cX4_counted 60 = .ok (.getfield 9, 3) := by decide +kernel
theorem dX4_counted_63 : decode cX4_counted 63 = .ok (.iconst 5, 1) := by decide +kernel
theorem dX4_counted_64 : decode cX4_counted 64 = .ok (.iaload, 1) := by decide +kernel
theorem dX4_counted_65 : decode cX4_counted 65 = .ok (.iastore, 1) := by decide +kernel
theorem dX4_counted_66 : decode cX4_counted 66 = .ok (.dup, 1) := by decide +kernel
theorem dX4_counted_67 : decode cX4_counted 67 = .ok (.bipush 7, 2) := by decide +kernel
theorem dX4_counted_69 : decode cX4_counted 69 = .ok (.aload_n 0, 1) := by decide +kernel
theorem dX4_counted_70 : decode cX4_counted 70 = .ok (.iconst 0, 1) := by decide +kernel
theorem dX4_counted_71 : decode cX4_counted 71 = .ok (.invokevirtual 77, 3) := by decide +kernel
theorem dX4_counted_74 : decode cX4_counted 74 = .ok (.iastore, 1) := by decide +kernel
theorem dX4_counted_75 : decode cX4_counted 75 = .ok (.dup, 1) := by decide +kernel
theorem dX4_counted_76 : decode cX4_counted 76 = .ok (.bipush 8, 2) := by decide +kernel
theorem dX4_counted_78 : decode cX4_counted 78 = .ok (.aload_n 0, 1) := by decide +kernel
theorem dX4_counted_79 : decode cX4_counted 79 = .ok (.iconst 2, 1) := by decide +kernel
theorem dX4_counted_80 : decode cX4_counted 80 = .ok (.invokevirtual 77, 3) := by decide +kernel
theorem dX4_counted_83 : decode cX4_counted 83 = .ok (.iastore, 1) := by decide +kernel
theorem dX4_counted_84 : decode cX4_counted 84 = .ok (.dup, 1) := by decide +kernel
theorem dX4_counted_85 : decode cX4_counted 85 = .ok (.bipush 9, 2) := by decide +kernel
theorem dX4_counted_87 : decode cX4_counted 87 = .ok (.aload_n 0, 1) := by decide +kernel
theorem dX4_counted_88 : decode cX4_counted 88 = .ok (.getfield 9, 3) := by decide +kernel
theorem dX4_counted_91 : decode cX4_counted 91 = .ok (.bipush 6, 2) := by decide +kernel
theorem dX4_counted_93 : decode cX4_counted 93 = .ok (.iaload, 1) := by decide +kernel
theorem dX4_counted_94 : decode cX4_counted 94 = .ok (.iastore, 1) := by decide +kernel
theorem dX4_counted_95 : decode cX4_counted 95 = .ok (.astore_n 2, 1) := by decide +kernel
theorem dX4_counted_96 : decode cX4_counted 96 = .ok (.aload_n 2, 1) := by decide +kernel
theorem dX4_counted_97 : decode cX4_counted 97 = .ok (.iload_n 1, 1) := by decide +kernel
theorem dX4_counted_98 : decode cX4_counted 98 = .ok (.iaload, 1) := by decide +kernel
theorem dX4_counted_99 : decode cX4_counted 99 = .ok (.ireturn, 1) := by decide +kernel
set_option maxRecDepth 20000 in
theorem ggX4_count_X4_isIn : GoodIn wsX4_count wsX4_isIn := goodIn_r _ [5] (by decide +kernel) (by decide +kernel)
set_option maxRecDepth 20000 in
theorem gX4_count_X4_isIn : GoodIn wsX4_count (va_wsS RX4 26 yX4_isIn wsX4_isIn) := goodIn_app (goodIn_of _ (by decide +kernel)) ggX4_count_X4_isIn
set_option maxRecDepth 20000 in
theorem ggX4_count_X4_counted : GoodIn wsX4_count wsX4_counted := goodIn_r _ [9, 10, 11, 12, 13, 14, 4, 15, 16, 17, 18, 19, 20, 21, 22, 23, 24, 25, 30, 31, 32, 33, 34, 35] (by decide +kernel) (by decide +kernel)
set_option maxRecDepth 20000 in
theorem gX4_count_X4_counted : GoodIn wsX4_count (wsV RX4 80 RX4 yX4_counted wsX4_counted) := goodIn_app (goodIn_of _ (by decide +kernel)) ggX4_count_X4_counted
set_option maxRecDepth 20000 in
theorem ggX4_count_X4_no : GoodIn wsX4_count wsX4_no := goodIn_r _ [29, 1, 30, 31, 32, 33, 34, 35] (by decide +kernel) (by decide +kernel)
set_option maxRecDepth 20000 in
theorem gX4_count_X4_no : GoodIn wsX4_count (wsV RX4 33 RX4 yX4_no wsX4_no) := goodIn_app (goodIn_of _ (by decide +kernel)) ggX4_count_X4_no
theorem dX4_count_0 : decode cX4_count 0 = .ok (.aload_n 0, 1) := by decide +kernel
theorem dX4_count_1 : decode cX4_count 1 = .ok (.iconst 0, 1) := by decide +kernel
theorem dX4_count_2 : decode cX4_count 2 = .ok (.putfield 19, 3) := by decide +kernel
theorem dX4_count_5 : decode cX4_count 5 = .ok (.iload_n 1, 1) := by decide +kernel
theorem dX4_count_6 : decode cX4_count 6 = .ok (.iconst 0, 1) := by decide +kernel
theorem dX4_count_7 : decode cX4_count 7 = .ok (.bipush 9, 2) := by decide +kernel
theorem dX4_count_9 : decode cX4_count 9 = .ok (.invokestatic 26, 3) := by decide +kernel
theorem dX4_count_12 : decode cX4_count 12 = .ok (.ifCond .eq 11, 3) := by decide +kernel
theorem dX4_count_15 : decode cX4_count 15 = .ok (.aload_n 0, 1) := by decide +kernel
theorem dX4_count_16 : decode cX4_count 16 = .ok (.iload_n 1, 1) := by decide +kernel
theorem dX4_count_17 : decode cX4_count 17 = .ok (.invokevirtual 80, 3) := by decide +kernel
theorem dX4_count_20 : decode cX4_count 20 = .ok (.goto 8, 3) := by decide +kernel
theorem dX4_count_23 : decode cX4_count 23 = .ok (.aload_n 0, 1) := by decide +kernel
theorem dX4_count_24 : decode cX4_count 24 = .ok (.iconst 1, 1) := by decide +kernel
theorem dX4_count_25 : decode cX4_count 25 = .ok (.invokevirtual 33, 3) := by decide +kernel
theorem dX4_count_28 : decode cX4_count 28 = .ok (.ireturn, 1) := by decide +kernel
set_option maxRecDepth 20000 in
theorem ggX4_nextTub_X4_tu : GoodIn wsX4_nextTub wsX4_tu := goodIn_r _ [6, 7, 8, 9, 10, 11, 12, 13] (by decide +kernel) (by decide +kernel)
set_option maxRecDepth 20000 in
theorem gX4_nextTub_X4_tu : GoodIn wsX4_nextTub (wsV RX4 64 RX4 yX4_tu wsX4_tu) := goodIn_app (goodIn_of _ (by decide +kernel)) ggX4_nextTub_X4_tu
theorem dX4_nextTub_0 : decode cX4_nextTub 0 = .ok (.iconst (-1), 1) := by decide +kernel
theorem dX4_nextTub_1 : decode cX4_nextTub 1 = .ok (.istore_n 1, 1) := by decide +kernel
theorem dX4_nextTub_2 : decode cX4_nextTub 2 = .ok (.iconst 0, 1) := by decide +kernel
theorem dX4_nextTub_3 : decode cX4_nextTub 3 = .ok (.istore_n 2, 1) := by decide +kernel
theorem dX4_nextTub_4 : decode cX4_nextTub 4 = .ok (.iload_n 2, 1) := by decide +kernel
theorem dX4_nextTub_5 : decode cX4_nextTub 5 = .ok (.aload_n 0, 1) := by decide +kernel
theorem dX4_nextTub_6 : decode cX4_nextTub 6 = .ok (.getfield 30, 3) := by decide +kernel
theorem dX4_nextTub_9 : decode cX4_nextTub 9 = .ok (.if_icmp .ge 40, 3) := by decide +kernel
theorem dX4_nextTub_12 : decode cX4_nextTub 12 = .ok (.aload_n 0, 1) := by decide +kernel
theorem dX4_nextTub_13 : decode cX4_nextTub 13 = .ok (.iload_n 2, 1) := by decide +kernel
theorem dX4_nextTub_14 : decode cX4_nextTub 14 = .ok (.iconst 0, 1) := by decide +kernel
theorem dX4_nextTub_15 : decode cX4_nextTub 15 = .ok (.invokevirtual 64, 3) := by decide +kernel
theorem dX4_nextTub_18 : decode cX4_nextTub 18 = .ok (.ifCond .le 25, 3) := by decide +kernel
theorem dX4_nextTub_21 : decode cX4_nextTub 21 = .ok (.iload_n 1, 1) := by decide +kernel
theorem dX4_nextTub_22 : decode cX4_nextTub 22 = .ok (.iconst (-1), 1) := by decide +kernel
theorem dX4_nextTub_23 : decode cX4_nextTub 23 = .ok (.if_icmp .eq 18, 3) := by decide +kernel
theorem dX4_nextTub_26 : decode cX4_nextTub 26 = .ok (.aload_n 0, 1) := by decide +kernel
theorem dX4_nextTub_27 : decode cX4_nextTub 27 = .ok (.iload_n 2, 1) := by decide +kernel
theorem dX4_nextTub_28 : decode cX4_nextTub 28 = .ok (.iconst 1, 1) := by decide +kernel
theorem dX4_nextTub_29 : decode cX4_nextTub 29 = .ok (.invokevirtual 64, 3) := by decide +kernel
theorem dX4_nextTub_32 : decode cX4_nextTub 32 = .ok (.aload_n 0, 1) := by decide +kernel
theorem dX4_nextTub_33 : decode cX4_nextTub 33 = .ok (.iload_n 1, 1) := by decide +kernel
theorem dX4_nextTub_34 : decode cX4_nextTub 34 = .ok (.iconst 1, 1) := by decide +kernel
theorem dX4_nextTub_35 : decode cX4_nextTub 35 = .ok (.invokevirtual 64, 3) := by decide +kernel
theorem dX4_nextTub_38 : decode cX4_nextTub 38 = .ok (.if_icmp .ge 5, 3) := by decide +kernel
theorem dX4_nextTub_41 : decode cX4_nextTub 41 = .ok (.iload_n 2, 1) := by decide +kernel
theorem dX4_nextTub_42 : decode cX4_nextTub 42 = .ok (.istore_n 1, 1) := by decide +kernel
theorem dX4_nextTub_43 : decode cX4_nextTub 43 = .ok (.iinc 2 1, 3) := by decide +kernel
theorem dX4_nextTub_46 : decode cX4_nextTub 46 = .ok (.goto (-42), 3) := by decide +kernel
theorem dX4_nextTub_49 : decode cX4_nextTub 49 = .ok (.iload_n 1, 1) := by decide +kernel
theorem dX4_nextTub_50 : decode cX4_nextTub 50 = .ok (.ireturn, 1) := by decide +kernel
set_option maxRecDepth 20000 in
theorem ggX4_next_X4_nextTub : GoodIn wsX4_next wsX4_nextTub := goodIn_r _ [6, 7, 8, 9, 10, 5, 11, 12, 13, 14, 15, 16, 17, 18] (by decide +kernel) (by decide +kernel)
set_option maxRecDepth 20000 in
theorem gX4_next_X4_nextTub : GoodIn wsX4_next (wsV RX4 83 RX4 yX4_nextTub wsX4_nextTub) := goodIn_app (goodIn_of _ (by decide +kernel)) ggX4_next_X4_nextTub
theorem dX4_next_0 : decode cX4_next 0 = .ok (.aload_n 0, 1) := by decide +kernel
theorem dX4_next_1 : decode cX4_next 1 = .ok (.iconst 0, 1) := by decide +kernel
theorem dX4_next_2 : decode cX4_next 2 = .ok (.putfield 19, 3) := by decide +kernel
theorem dX4_next_5 : decode cX4_next 5 = .ok (.aload_n 0, 1) := by decide +kernel
theorem dX4_next_6 : decode cX4_next 6 = .ok (.invokevirtual 83, 3) := by decide +kernel
theorem dX4_next_9 : decode cX4_next 9 = .ok (.ireturn, 1) := by decide +kernel
set_option maxRecDepth 20000 in
theorem ggX4_firmUp_X4_ch : GoodIn wsX4_firmUp wsX4_ch := goodIn_r _ [12, 13, 18, 19, 20, 21, 22, 23] (by decide +kernel) (by decide +kernel)
set_option maxRecDepth 20000 in
theorem gX4_firmUp_X4_ch : GoodIn wsX4_firmUp (wsV RX4 46 RX4 yX4_ch wsX4_ch) := goodIn_app (goodIn_of _ (by decide +kernel)) ggX4_firmUp_X4_ch
set_option maxRecDepth 20000 in
theorem ggX4_firmUp_X4_setChurn : GoodIn wsX4_firmUp wsX4_setChurn := goodIn_r _ [17, 13, 18, 19, 20, 21, 22, 23] (by decide +kernel) (by decide +kernel)
set_option maxRecDepth 20000 in
theorem gX4_firmUp_X4_setChurn : GoodIn wsX4_firmUp (wsV RX4 57 RX4 yX4_setChurn wsX4_setChurn) := goodIn_app (goodIn_of _ (by decide +kernel)) ggX4_firmUp_X4_setChurn
theorem dX4_firmUp_0 : decode cX4_firmUp 0 = .ok (.aload_n 0, 1) := by decide +kernel
theorem dX4_firmUp_1 : decode cX4_firmUp 1 = .ok (.iload_n 1, 1) := by decide +kernel
theorem dX4_firmUp_2 : decode cX4_firmUp 2 = .ok (.iconst 1, 1) := by decide +kernel
theorem dX4_firmUp_3 : decode cX4_firmUp 3 = .ok (.invokevirtual 46, 3) := by decide +kernel
theorem dX4_firmUp_6 : decode cX4_firmUp 6 = .ok (.ifCond .le 29, 3) := by decide +kernel
theorem dX4_firmUp_9 : decode cX4_firmUp 9 = .ok (.aload_n 0, 1) := by decide +kernel
theorem dX4_firmUp_10 : decode cX4_firmUp 10 = .ok (.iload_n 1, 1) := by decide +kernel
theorem dX4_firmUp_11 : decode cX4_firmUp 11 = .ok (.iconst 2, 1) := by decide +kernel
theorem dX4_firmUp_12 : decode cX4_firmUp 12 = .ok (.bipush 100, 2) := by decide +kernel
theorem dX4_firmUp_14 : decode cX4_firmUp 14 = .ok (.aload_n 0, 1) := by decide +kernel
theorem dX4_firmUp_15 : decode cX4_firmUp 15 = .ok (.iload_n 1, 1) := by decide +kernel
theorem dX4_firmUp_16 : decode cX4_firmUp 16 = .ok (.iconst 2, 1) := by decide +kernel
theorem dX4_firmUp_17 : decode cX4_firmUp 17 = .ok (.invokevirtual 46, 3) := by decide +kernel
theorem dX4_firmUp_20 : decode cX4_firmUp 20 = .ok (.aload_n 0, 1) := by decide +kernel
theorem dX4_firmUp_21 : decode cX4_firmUp 21 = .ok (.iload_n 1, 1) := by decide +kernel
theorem dX4_firmUp_22 : decode cX4_firmUp 22 = .ok (.iconst 0, 1) := by decide +kernel
theorem dX4_firmUp_23 : decode cX4_firmUp 23 = .ok (.invokevirtual 46, 3) := by decide +kernel
theorem dX4_firmUp_26 : decode cX4_firmUp 26 = .ok (.iconst 3, 1) := by decide +kernel
theorem dX4_firmUp_27 : decode cX4_firmUp 27 = .ok (.idiv, 1) := by decide +kernel
theorem dX4_firmUp_28 : decode cX4_firmUp 28 = .ok (.iadd, 1) := by decide +kernel
theorem dX4_firmUp_29 : decode cX4_firmUp 29 = .ok (.invokestatic 40, 3) := by decide +kernel
theorem dX4_firmUp_32 : decode cX4_firmUp 32 = .ok (.invokevirtual 57, 3) := by decide +kernel
theorem dX4_firmUp_35 : decode cX4_firmUp 35 = .ok (.aload_n 0, 1) := by decide +kernel
theorem dX4_firmUp_36 : decode cX4_firmUp 36 = .ok (.iload_n 1, 1) := by decide +kernel
theorem dX4_firmUp_37 : decode cX4_firmUp 37 = .ok (.iconst 0, 1) := by decide +kernel
theorem dX4_firmUp_38 : decode cX4_firmUp 38 = .ok (.iconst 0, 1) := by decide +kernel
theorem dX4_firmUp_39 : decode cX4_firmUp 39 = .ok (.aload_n 0, 1) := by decide +kernel
theorem dX4_firmUp_40 : decode cX4_firmUp 40 = .ok (.iload_n 1, 1) := by decide +kernel
theorem dX4_firmUp_41 : decode cX4_firmUp 41 = .ok (.iconst 0, 1) := by decide +kernel
theorem dX4_firmUp_42 : decode cX4_firmUp 42 = .ok (.invokevirtual 46, 3) := by decide +kernel
theorem dX4_firmUp_45 : decode cX4_firmUp 45 = .ok (.iload_n 2, 1) := by decide +kernel
theorem dX4_firmUp_46 : decode cX4_firmUp 46 = .ok (.bipush 10, 2) := by decide +kernel
theorem dX4_firmUp_48 : decode cX4_firmUp 48 = .ok (.idiv, 1) := by decide +kernel
theorem dX4_firmUp_49 : decode cX4_firmUp 49 = .ok (.isub, 1) := by decide +kernel
theorem dX4_firmUp_50 : decode cX4_firmUp 50 = .ok (.iconst 1, 1) := by decide +kernel
theorem dX4_firmUp_51 : decode cX4_firmUp 51 = .ok (.isub, 1) := by decide +kernel
theorem dX4_firmUp_52 : decode cX4_firmUp 52 = .ok (.invokestatic 70, 3) := by decide +kernel
theorem dX4_firmUp_55 : decode cX4_firmUp 55 = .ok (.invokevirtual 57, 3) := by decide +kernel
theorem dX4_firmUp_58 : decode cX4_firmUp 58 = .ok (.return_, 1) := by decide +kernel
set_option maxRecDepth 20000 in
theorem ggX4_soften_X4_tu : GoodIn wsX4_soften wsX4_tu := goodIn_r _ [13, 1, 18, 19, 20, 21, 22, 23] (by decide +kernel) (by decide +kernel)
set_option maxRecDepth 20000 in
theorem gX4_soften_X4_tu : GoodIn wsX4_soften (wsV RX4 64 RX4 yX4_tu wsX4_tu) := goodIn_app (goodIn_of _ (by decide +kernel)) ggX4_soften_X4_tu
set_option maxRecDepth 20000 in
theorem ggX4_soften_X4_setTub : GoodIn wsX4_soften wsX4_setTub := goodIn_r _ [17, 1, 18, 19, 20, 21, 22, 23] (by decide +kernel) (by decide +kernel)
set_option maxRecDepth 20000 in
theorem gX4_soften_X4_setTub : GoodIn wsX4_soften (wsV RX4 67 RX4 yX4_setTub wsX4_setTub) := goodIn_app (goodIn_of _ (by decide +kernel)) ggX4_soften_X4_setTub
theorem dX4_soften_0 : decode cX4_soften 0 = .ok (.aload_n 0, 1) := by decide +kernel
theorem dX4_soften_1 : decode cX4_soften 1 = .ok (.iload_n 1, 1) := by decide +kernel
theorem dX4_soften_2 : decode cX4_soften 2 = .ok (.iconst 0, 1) := by decide +kernel
theorem dX4_soften_3 : decode cX4_soften 3 = .ok (.invokevirtual 64, 3) := by decide +kernel
theorem dX4_soften_6 : decode cX4_soften 6 = .ok (.ifCond .ne 4, 3) := by decide +kernel
theorem dX4_soften_9 : decode cX4_soften 9 = .ok (.return_, 1) := by decide +kernel
theorem dX4_soften_10 : decode cX4_soften 10 = .ok (.iload_n 2, 1) := by decide +kernel
theorem dX4_soften_11 : decode cX4_soften 11 = .ok (.bipush 20, 2) := by decide +kernel
theorem dX4_soften_13 : decode cX4_soften 13 = .ok (.if_icmp .le 25, 3) := by decide +kernel
theorem dX4_soften_16 : decode cX4_soften 16 = .ok (.aload_n 0, 1) := by decide +kernel
theorem dX4_soften_17 : decode cX4_soften 17 = .ok (.getfield 9, 3) := by decide +kernel
theorem dX4_soften_20 : decode cX4_soften 20 = .ok (.iconst 1, 1) := by decide +kernel
theorem dX4_soften_21 : decode cX4_soften 21 = .ok (.iaload, 1) := by decide +kernel
theorem dX4_soften_22 : decode cX4_soften 22 = .ok (.bipush 100, 2) := by decide +kernel
theorem dX4_soften_24 : decode cX4_soften 24 = .ok (.if_icmp .ge 14, 3) := by decide +kernel
theorem dX4_soften_27 : decode cX4_soften 27 = .ok (.iload_n 2, 1) := by decide +kernel
theorem dX4_soften_28 : decode cX4_soften 28 = .ok (.bipush 20, 2) := by decide +kernel
theorem dX4_soften_30 : decode cX4_soften 30 = .ok (.isub, 1) := by decide +kernel
theorem dX4_soften_31 : decode cX4_soften 31 = .ok (.iconst 4, 1) := by decide +kernel
theorem dX4_soften_32 : decode cX4_soften 32 = .ok (.idiv, 1) := by decide +kernel
theorem dX4_soften_33 : decode cX4_soften 33 = .ok (.iconst 1, 1) := by decide +kernel
theorem dX4_soften_34 : decode cX4_soften 34 = .ok (.iadd, 1) := by decide +kernel
theorem dX4_soften_35 : decode cX4_soften 35 = .ok (.goto 4, 3) := by decide +kernel
theorem dX4_soften_38 : decode cX4_soften 38 = .ok (.iconst (-1), 1) := by decide +kernel
theorem dX4_soften_39 : decode cX4_soften 39 = .ok (.istore_n 3, 1) := by decide +kernel
theorem dX4_soften_40 : decode cX4_soften 40 = .ok (.aload_n 0, 1) := by decide +kernel
theorem dX4_soften_41 : decode cX4_soften 41 = .ok (.iload_n 1, 1) := by decide +kernel
theorem dX4_soften_42 : decode cX4_soften 42 = .ok (.iconst 1, 1) := by decide +kernel
theorem dX4_soften_43 : decode cX4_soften 43 = .ok (.iconst 0, 1) := by decide +kernel
theorem dX4_soften_44 : decode cX4_soften 44 = .ok (.bipush 100, 2) := by decide +kernel
theorem dX4_soften_46 : decode cX4_soften 46 = .ok (.aload_n 0, 1) := by decide +kernel
theorem dX4_soften_47 : decode cX4_soften 47 = .ok (.iload_n 1, 1) := by decide +kernel
theorem dX4_soften_48 : decode cX4_soften 48 = .ok (.iconst 1, 1) := by decide +kernel
theorem dX4_soften_49 : decode cX4_soften 49 = .ok (.invokevirtual 64, 3) := by decide +kernel
theorem dX4_soften_52 : decode cX4_soften 52 = .ok (.iload_n 3, 1) := by decide +kernel
theorem dX4_soften_53 : decode cX4_soften 53 = .ok (.iadd, 1) := by decide +kernel
theorem dX4_soften_54 : decode cX4_soften 54 = .ok (.invokestatic 40, 3) := by decide +kernel
theorem dX4_soften_57 : decode cX4_soften 57 = .ok (.invokestatic 70, 3) := by decide +kernel
theorem dX4_soften_60 : decode cX4_soften 60 = .ok (.invokevirtual 67, 3) := by decide +kernel
theorem dX4_soften_63 : decode cX4_soften 63 = .ok (.aload_n 0, 1) := by decide +kernel
theorem dX4_soften_64 : decode cX4_soften 64 = .ok (.iload_n 1, 1) := by decide +kernel
theorem dX4_soften_65 : decode cX4_soften 65 = .ok (.iconst 1, 1) := by decide +kernel
theorem dX4_soften_66 : decode cX4_soften 66 = .ok (.invokevirtual 64, 3) := by decide +kernel
theorem dX4_soften_69 : decode cX4_soften 69 = .ok (.bipush 100, 2) := by decide +kernel
theorem dX4_soften_71 : decode cX4_soften 71 = .ok (.if_icmp .ne 21, 3) := by decide +kernel
theorem dX4_soften_74 : decode cX4_soften 74 = .ok (.aload_n 0, 1) := by decide +kernel
theorem dX4_soften_75 : decode cX4_soften 75 = .ok (.iload_n 1, 1) := by decide +kernel
theorem dX4_soften_76 : decode cX4_soften 76 = .ok (.iconst 0, 1) := by decide +kernel
theorem dX4_soften_77 : decode cX4_soften 77 = .ok (.iconst 0, 1) := by decide +kernel
theorem dX4_soften_78 : decode cX4_soften 78 = .ok (.aload_n 0, 1) := by decide +kernel
theorem dX4_soften_79 : decode cX4_soften 79 = .ok (.iload_n 1, 1) := by decide +kernel
theorem dX4_soften_80 : decode cX4_soften 80 = .ok (.iconst 0, 1) := by decide +kernel
theorem dX4_soften_81 : decode cX4_soften 81 = .ok (.invokevirtual 64, 3) := by decide +kernel
theorem dX4_soften_84 : decode cX4_soften 84 = .ok (.iconst 2, 1) := by decide +kernel
theorem dX4_soften_85 : decode cX4_soften 85 = .ok (.isub, 1) := by decide +kernel
theorem dX4_soften_86 : decode cX4_soften 86 = .ok (.invokestatic 70, 3) := by decide +kernel
theorem dX4_soften_89 : decode cX4_soften 89 = .ok (.invokevirtual 67, 3) := by decide +kernel
theorem dX4_soften_92 : decode cX4_soften 92 = .ok (.return_, 1) := by decide +kernel
set_option maxRecDepth 20000 in
theorem ggX4_sell_X4_nextTub : GoodIn wsX4_sell wsX4_nextTub := goodIn_r _ [6, 7, 8, 9, 10, 5, 11, 1, 16, 17, 18, 19, 20, 21] (by decide +kernel) (by decide +kernel)
set_option maxRecDepth 20000 in
theorem gX4_sell_X4_nextTub : GoodIn wsX4_sell (wsV RX4 83 RX4 yX4_nextTub wsX4_nextTub) := goodIn_app (goodIn_of _ (by decide +kernel)) ggX4_sell_X4_nextTub
set_option maxRecDepth 20000 in
theorem ggX4_sell_X4_tu : GoodIn wsX4_sell wsX4_tu := goodIn_r _ [11, 1, 16, 17, 18, 19, 20, 21] (by decide +kernel) (by decide +kernel)
set_option maxRecDepth 20000 in
theorem gX4_sell_X4_tu : GoodIn wsX4_sell (wsV RX4 64 RX4 yX4_tu wsX4_tu) := goodIn_app (goodIn_of _ (by decide +kernel)) ggX4_sell_X4_tu
set_option maxRecDepth 20000 in
theorem ggX4_sell_X4_setTub : GoodIn wsX4_sell wsX4_setTub := goodIn_r _ [15, 1, 16, 17, 18, 19, 20, 21] (by decide +kernel) (by decide +kernel)
set_option maxRecDepth 20000 in
theorem gX4_sell_X4_setTub : GoodIn wsX4_sell (wsV RX4 67 RX4 yX4_setTub wsX4_setTub) := goodIn_app (goodIn_of _ (by decide +kernel)) ggX4_sell_X4_setTub
theorem dX4_sell_0 : decode cX4_sell 0 = .ok (.aload_n 0, 1) := by decide +kernel
theorem dX4_sell_1 : decode cX4_sell 1 = .ok (.invokevirtual 83, 3) := by decide +kernel
theorem dX4_sell_4 : decode cX4_sell 4 = .ok (.istore_n 1, 1) := by decide +kernel
theorem dX4_sell_5 : decode cX4_sell 5 = .ok (.iload_n 1, 1) := by decide +kernel
theorem dX4_sell_6 : decode cX4_sell 6 = .ok (.iconst (-1), 1) := by decide +kernel
theorem dX4_sell_7 : decode cX4_sell 7 = .ok (.if_icmp .eq 12, 3) := by decide +kernel
theorem dX4_sell_10 : decode cX4_sell 10 = .ok (.aload_n 0, 1) := by decide +kernel
theorem dX4_sell_11 : decode cX4_sell 11 = .ok (.getfield 9, 3) := by decide +kernel
theorem dX4_sell_14 : decode cX4_sell 14 = .ok (.iconst 4, 1) := by decide +kernel
theorem dX4_sell_15 : decode cX4_sell 15 = .ok (.iaload, 1) := by decide +kernel
theorem dX4_sell_16 : decode cX4_sell 16 = .ok (.ifCond .ne 15, 3) := by decide +kernel
theorem dX4_sell_19 : decode cX4_sell 19 = .ok (.aload_n 0, 1) := by decide +kernel
theorem dX4_sell_20 : decode cX4_sell 20 = .ok (.getfield 9, 3) := by decide +kernel
theorem dX4_sell_23 : decode cX4_sell 23 = .ok (.bipush 6, 2) := by decide +kernel
theorem dX4_sell_25 : decode cX4_sell 25 = .ok (.dup2, 1) := by decide +kernel
theorem dX4_sell_26 : decode cX4_sell 26 = .ok (.iaload, 1) := by decide +kernel
theorem dX4_sell_27 : decode cX4_sell 27 = .ok (.iconst 1, 1) := by decide +kernel
theorem dX4_sell_28 : decode cX4_sell 28 = .ok (.iadd, 1) := by decide +kernel
theorem dX4_sell_29 : decode cX4_sell 29 = .ok (.iastore, 1) := by decide +kernel
theorem dX4_sell_30 : decode cX4_sell 30 = .ok (.return_, 1) := by decide +kernel
theorem dX4_sell_31 : decode cX4_sell 31 = .ok (.aload_n 0, 1) := by decide +kernel
theorem dX4_sell_32 : decode cX4_sell 32 = .ok (.getfield 9, 3) := by decide +kernel
theorem dX4_sell_35 : decode cX4_sell 35 = .ok (.iconst 4, 1) := by decide +kernel
theorem dX4_sell_36 : decode cX4_sell 36 = .ok (.dup2, 1) := by decide +kernel
theorem dX4_sell_37 : decode cX4_sell 37 = .ok (.iaload, 1) := by decide +kernel
theorem dX4_sell_38 : decode cX4_sell 38 = .ok (.iconst 1, 1) := by decide +kernel
theorem dX4_sell_39 : decode cX4_sell 39 = .ok (.isub, 1) := by decide +kernel
theorem dX4_sell_40 : decode cX4_sell 40 = .ok (.iastore, 1) := by decide +kernel
theorem dX4_sell_41 : decode cX4_sell 41 = .ok (.aload_n 0, 1) := by decide +kernel
theorem dX4_sell_42 : decode cX4_sell 42 = .ok (.getfield 9, 3) := by decide +kernel
theorem dX4_sell_45 : decode cX4_sell 45 = .ok (.iconst 5, 1) := by decide +kernel
theorem dX4_sell_46 : decode cX4_sell 46 = .ok (.dup2, 1) := by decide +kernel
theorem dX4_sell_47 : decode cX4_sell 47 = .ok (.iaload, 1) := by decide +kernel
theorem dX4_sell_48 : decode cX4_sell 48 = .ok (.aload_n 0, 1) := by decide +kernel
theorem dX4_sell_49 : decode cX4_sell 49 = .ok (.iload_n 1, 1) := by decide +kernel
theorem dX4_sell_50 : decode cX4_sell 50 = .ok (.iconst 1, 1) := by decide +kernel
theorem dX4_sell_51 : decode cX4_sell 51 = .ok (.invokevirtual 64, 3) := by decide +kernel
theorem dX4_sell_54 : decode cX4_sell 54 = .ok (.bipush 50, 2) := by decide +kernel
theorem dX4_sell_56 : decode cX4_sell 56 = .ok (.if_icmp .ge 7, 3) := by decide +kernel
theorem dX4_sell_59 : decode cX4_sell 59 = .ok (.iconst 3, 1) := by decide +kernel
theorem dX4_sell_60 : decode cX4_sell 60 = .ok (.goto 4, 3) := by decide +kernel
theorem dX4_sell_63 : decode cX4_sell 63 = .ok (.iconst 2, 1) := by decide +kernel
theorem dX4_sell_64 : decode cX4_sell 64 = .ok (.iadd, 1) := by decide +kernel
theorem dX4_sell_65 : decode cX4_sell 65 = .ok (.iastore, 1) := by decide +kernel
theorem dX4_sell_66 : decode cX4_sell 66 = .ok (.aload_n 0, 1) := by decide +kernel
theorem dX4_sell_67 : decode cX4_sell 67 = .ok (.iload_n 1, 1) := by decide +kernel
theorem dX4_sell_68 : decode cX4_sell 68 = .ok (.iconst 0, 1) := by decide +kernel
theorem dX4_sell_69 : decode cX4_sell 69 = .ok (.aload_n 0, 1) := by decide +kernel
theorem dX4_sell_70 : decode cX4_sell 70 = .ok (.iload_n 1, 1) := by decide +kernel
theorem dX4_sell_71 : decode cX4_sell 71 = .ok (.iconst 0, 1) := by decide +kernel
theorem dX4_sell_72 : decode cX4_sell 72 = .ok (.invokevirtual 64, 3) := by decide +kernel
theorem dX4_sell_75 : decode cX4_sell 75 = .ok (.iconst 1, 1) := by decide +kernel
theorem dX4_sell_76 : decode cX4_sell 76 = .ok (.isub, 1) := by decide +kernel
theorem dX4_sell_77 : decode cX4_sell 77 = .ok (.invokevirtual 67, 3) := by decide +kernel
theorem dX4_sell_80 : decode cX4_sell 80 = .ok (.aload_n 0, 1) := by decide +kernel
theorem dX4_sell_81 : decode cX4_sell 81 = .ok (.iload_n 1, 1) := by decide +kernel
theorem dX4_sell_82 : decode cX4_sell 82 = .ok (.iconst 2, 1) := by decide +kernel
theorem dX4_sell_83 : decode cX4_sell 83 = .ok (.aload_n 0, 1) := by decide +kernel
theorem dX4_sell_84 : decode cX4_sell 84 = .ok (.iload_n 1, 1) := by decide +kernel
theorem dX4_sell_85 : decode cX4_sell 85 = .ok (.iconst 2, 1) := by decide +kernel
theorem dX4_sell_86 : decode cX4_sell 86 = .ok (.invokevirtual 64, 3) := by decide +kernel
theorem dX4_sell_89 : decode cX4_sell 89 = .ok (.iconst 1, 1) := by decide +kernel
theorem dX4_sell_90 : decode cX4_sell 90 = .ok (.iadd, 1) := by decide +kernel
theorem dX4_sell_91 : decode cX4_sell 91 = .ok (.invokevirtual 67, 3) := by decide +kernel
theorem dX4_sell_94 : decode cX4_sell 94 = .ok (.return_, 1) := by decide +kernel
set_option maxRecDepth 20000 in
theorem ggX4_hourOn_X4_heatNow : GoodIn wsX4_hourOn wsX4_heatNow := goodIn_r _ [12, 13, 3, 52, 53, 54, 55, 56, 57] (by decide +kernel) (by decide +kernel)
set_option maxRecDepth 20000 in
theorem gX4_hourOn_X4_heatNow : GoodIn wsX4_hourOn (wsV RX4 73 RX4 yX4_heatNow wsX4_heatNow) := goodIn_app (goodIn_of _ (by decide +kernel)) ggX4_hourOn_X4_heatNow
set_option maxRecDepth 20000 in
theorem ggX4_hourOn_X4_firmUp : GoodIn wsX4_hourOn wsX4_firmUp := goodIn_r _ [17, 18, 19, 6, 20, 4, 5, 7, 21, 22, 23, 11, 24, 3, 25, 26, 27, 28, 52, 53, 54, 55, 56, 57] (by decide +kernel) (by decide +kernel)
set_option maxRecDepth 20000 in
theorem gX4_hourOn_X4_firmUp : GoodIn wsX4_hourOn (wsV RX4 86 RX4 yX4_firmUp wsX4_firmUp) := goodIn_app (goodIn_of _ (by decide +kernel)) ggX4_hourOn_X4_firmUp
set_option maxRecDepth 20000 in
theorem ggX4_hourOn_X4_soften : GoodIn wsX4_hourOn wsX4_soften := goodIn_r _ [32, 3, 18, 19, 6, 20, 4, 5, 7, 33, 34, 35, 11, 36, 37, 38, 39, 40, 52, 53, 54, 55, 56, 57] (by decide +kernel) (by decide +kernel)
set_option maxRecDepth 20000 in
theorem gX4_hourOn_X4_soften : GoodIn wsX4_hourOn (wsV RX4 90 RX4 yX4_soften wsX4_soften) := goodIn_app (goodIn_of _ (by decide +kernel)) ggX4_hourOn_X4_soften
set_option maxRecDepth 20000 in
theorem ggX4_hourOn_X4_isIn : GoodIn wsX4_hourOn wsX4_isIn := goodIn_r _ [43] (by decide +kernel) (by decide +kernel)
set_option maxRecDepth 20000 in
theorem gX4_hourOn_X4_isIn : GoodIn wsX4_hourOn (va_wsS RX4 26 yX4_isIn wsX4_isIn) := goodIn_app (goodIn_of _ (by decide +kernel)) ggX4_hourOn_X4_isIn
set_option maxRecDepth 20000 in
theorem ggX4_hourOn_X4_sell : GoodIn wsX4_hourOn wsX4_sell := goodIn_r _ [47, 3, 48, 49, 50, 11, 51, 2, 33, 34, 35, 36, 37, 38, 39, 40, 52, 53, 54, 55, 56, 57] (by decide +kernel) (by decide +kernel)
set_option maxRecDepth 20000 in
theorem gX4_hourOn_X4_sell : GoodIn wsX4_hourOn (wsV RX4 93 RX4 yX4_sell wsX4_sell) := goodIn_app (goodIn_of _ (by decide +kernel)) ggX4_hourOn_X4_sell
set_option maxRecDepth 20000 in
theorem ggX4_hourOn_X4_tu : GoodIn wsX4_hourOn wsX4_tu := goodIn_r _ [36, 3, 52, 53, 54, 55, 56, 57] (by decide +kernel) (by decide +kernel)
set_option maxRecDepth 20000 in
theorem gX4_hourOn_X4_tu : GoodIn wsX4_hourOn (wsV RX4 64 RX4 yX4_tu wsX4_tu) := goodIn_app (goodIn_of _ (by decide +kernel)) ggX4_hourOn_X4_tu
set_option maxRecDepth 20000 in
theorem ggX4_hourOn_X4_setTub : GoodIn wsX4_hourOn wsX4_setTub := goodIn_r _ [40, 3, 52, 53, 54, 55, 56, 57] (by decide +kernel) (by decide +kernel)
set_option maxRecDepth 20000 in
theorem gX4_hourOn_X4_setTub : GoodIn wsX4_hourOn (wsV RX4 67 RX4 yX4_setTub wsX4_setTub) := goodIn_app (goodIn_of _ (by decide +kernel)) ggX4_hourOn_X4_setTub
theorem dX4_hourOn_0 : decode cX4_hourOn 0 = .ok (.aload_n 0, 1) := by decide +kernel
theorem dX4_hourOn_1 : decode cX4_hourOn 1 = .ok (.invokevirtual 73, 3) := by decide +kernel
theorem dX4_hourOn_4 : decode cX4_hourOn 4 = .ok (.istore_n 1, 1) := by decide +kernel
theorem dX4_hourOn_5 : decode cX4_hourOn 5 = .ok (.iconst 0, 1) := by decide +kernel
theorem dX4_hourOn_6 : decode cX4_hourOn 6 = .ok (.istore_n 2, 1) := by decide +kernel
theorem dX4_hourOn_7 : decode cX4_hourOn 7 = .ok (.iload_n 2, 1) := by decide +kernel
theorem dX4_hourOn_8 : decode cX4_hourOn 8 = .ok (.aload_n 0, 1) := by decide +kernel
theorem dX4_hourOn_9 : decode cX4_hourOn 9 = .ok (.getfield 23, 3) := by decide +kernel
theorem dX4_hourOn_12 : decode cX4_hourOn 12 = .ok (.if_icmp .ge 15, 3) := by decide +kernel
theorem dX4_hourOn_15 : decode cX4_hourOn 15 = .ok (.aload_n 0, 1) := by decide +kernel
theorem dX4_hourOn_16 : decode cX4_hourOn 16 = .ok (.iload_n 2, 1) := by decide +kernel
theorem dX4_hourOn_17 : decode cX4_hourOn 17 = .ok (.iload_n 1, 1) := by decide +kernel
theorem dX4_hourOn_18 : decode cX4_hourOn 18 = .ok (.invokevirtual 86, 3) := by decide +kernel
theorem dX4_hourOn_21 : decode cX4_hourOn 21 = .ok (.iinc 2 1, 3) := by decide +kernel
theorem dX4_hourOn_24 : decode cX4_hourOn 24 = .ok (.goto (-17), 3) := by decide +kernel
theorem dX4_hourOn_27 : decode cX4_hourOn 27 = .ok (.iconst 0, 1) := by decide +kernel
end
section
theorem dX4_hourOn_28 : decode cX4_hourOn 28 = .ok (.istore_n 2, 1) := by decide +kernel
theorem dX4_hourOn_29 : decode cX4_hourOn 29 = .ok (.iload_n 2, 1) := by decide +kernel
theorem dX4_hourOn_30 : decode cX4_hourOn 30 = .ok (.aload_n 0, 1) := by decide +kernel
theorem dX4_hourOn_31 : decode cX4_hourOn 31 = .ok (.getfield 30, 3) := by decide +kernel
theorem dX4_hourOn_34 : decode cX4_hourOn 34 = .ok (.if_icmp .ge 15, 3) := by decide +kernel
theorem dX4_hourOn_37 : decode cX4_hourOn 37 = .ok (.aload_n 0, 1) := by decide +kernel
theorem dX4_hourOn_38 : decode cX4_hourOn 38 = .ok (.iload_n 2, 1) := by decide +kernel
theorem dX4_hourOn_39 : decode cX4_hourOn 39 = .ok (.iload_n 1, 1) := by decide +kernel
theorem dX4_hourOn_40 : decode cX4_hourOn 40 = .ok (.invokevirtual 90, 3) := by decide +kernel
theorem dX4_hourOn_43 : decode cX4_hourOn 43 = .ok (.iinc 2 1, 3) := by decide +kernel
theorem dX4_hourOn_46 : decode cX4_hourOn 46 = .ok (.goto (-17), 3) := by decide +kernel
theorem dX4_hourOn_49 : decode cX4_hourOn 49 = .ok (.aload_n 0, 1) := by decide +kernel
theorem dX4_hourOn_50 : decode cX4_hourOn 50 = .ok (.getfield 9, 3) := by decide +kernel
theorem dX4_hourOn_53 : decode cX4_hourOn 53 = .ok (.iconst 0, 1) := by decide +kernel
theorem dX4_hourOn_54 : decode cX4_hourOn 54 = .ok (.iaload, 1) := by decide +kernel
theorem dX4_hourOn_55 : decode cX4_hourOn 55 = .ok (.bipush 24, 2) := by decide +kernel
theorem dX4_hourOn_57 : decode cX4_hourOn 57 = .ok (.irem, 1) := by decide +kernel
theorem dX4_hourOn_58 : decode cX4_hourOn 58 = .ok (.bipush 10, 2) := by decide +kernel
theorem dX4_hourOn_60 : decode cX4_hourOn 60 = .ok (.bipush 18, 2) := by decide +kernel
theorem dX4_hourOn_62 : decode cX4_hourOn 62 = .ok (.invokestatic 26, 3) := by decide +kernel
theorem dX4_hourOn_65 : decode cX4_hourOn 65 = .ok (.ifCond .eq 22, 3) := by decide +kernel
theorem dX4_hourOn_68 : decode cX4_hourOn 68 = .ok (.iconst 0, 1) := by decide +kernel
theorem dX4_hourOn_69 : decode cX4_hourOn 69 = .ok (.istore_n 2, 1) := by decide +kernel
theorem dX4_hourOn_70 : decode cX4_hourOn 70 = .ok (.iload_n 2, 1) := by decide +kernel
theorem dX4_hourOn_71 : decode cX4_hourOn 71 = .ok (.iload_n 1, 1) := by decide +kernel
theorem dX4_hourOn_72 : decode cX4_hourOn 72 = .ok (.iconst 4, 1) := by decide +kernel
theorem dX4_hourOn_73 : decode cX4_hourOn 73 = .ok (.idiv, 1) := by decide +kernel
theorem dX4_hourOn_74 : decode cX4_hourOn 74 = .ok (.if_icmp .ge 13, 3) := by decide +kernel
theorem dX4_hourOn_77 : decode cX4_hourOn 77 = .ok (.aload_n 0, 1) := by decide +kernel
theorem dX4_hourOn_78 : decode cX4_hourOn 78 = .ok (.invokevirtual 93, 3) := by decide +kernel
theorem dX4_hourOn_81 : decode cX4_hourOn 81 = .ok (.iinc 2 1, 3) := by decide +kernel
theorem dX4_hourOn_84 : decode cX4_hourOn 84 = .ok (.goto (-14), 3) := by decide +kernel
theorem dX4_hourOn_87 : decode cX4_hourOn 87 = .ok (.aload_n 0, 1) := by decide +kernel
theorem dX4_hourOn_88 : decode cX4_hourOn 88 = .ok (.getfield 9, 3) := by decide +kernel
theorem dX4_hourOn_91 : decode cX4_hourOn 91 = .ok (.iconst 0, 1) := by decide +kernel
theorem dX4_hourOn_92 : decode cX4_hourOn 92 = .ok (.iaload, 1) := by decide +kernel
theorem dX4_hourOn_93 : decode cX4_hourOn 93 = .ok (.iconst 4, 1) := by decide +kernel
theorem dX4_hourOn_94 : decode cX4_hourOn 94 = .ok (.irem, 1) := by decide +kernel
theorem dX4_hourOn_95 : decode cX4_hourOn 95 = .ok (.ifCond .ne 23, 3) := by decide +kernel
theorem dX4_hourOn_98 : decode cX4_hourOn 98 = .ok (.aload_n 0, 1) := by decide +kernel
theorem dX4_hourOn_99 : decode cX4_hourOn 99 = .ok (.getfield 9, 3) := by decide +kernel
theorem dX4_hourOn_102 : decode cX4_hourOn 102 = .ok (.iconst 1, 1) := by decide +kernel
theorem dX4_hourOn_103 : decode cX4_hourOn 103 = .ok (.iconst 0, 1) := by decide +kernel
theorem dX4_hourOn_104 : decode cX4_hourOn 104 = .ok (.aload_n 0, 1) := by decide +kernel
theorem dX4_hourOn_105 : decode cX4_hourOn 105 = .ok (.getfield 9, 3) := by decide +kernel
theorem dX4_hourOn_108 : decode cX4_hourOn 108 = .ok (.iconst 1, 1) := by decide +kernel
theorem dX4_hourOn_109 : decode cX4_hourOn 109 = .ok (.iaload, 1) := by decide +kernel
theorem dX4_hourOn_110 : decode cX4_hourOn 110 = .ok (.iload_n 1, 1) := by decide +kernel
theorem dX4_hourOn_111 : decode cX4_hourOn 111 = .ok (.iconst 5, 1) := by decide +kernel
theorem dX4_hourOn_112 : decode cX4_hourOn 112 = .ok (.idiv, 1) := by decide +kernel
theorem dX4_hourOn_113 : decode cX4_hourOn 113 = .ok (.isub, 1) := by decide +kernel
theorem dX4_hourOn_114 : decode cX4_hourOn 114 = .ok (.invokestatic 70, 3) := by decide +kernel
theorem dX4_hourOn_117 : decode cX4_hourOn 117 = .ok (.iastore, 1) := by decide +kernel
theorem dX4_hourOn_118 : decode cX4_hourOn 118 = .ok (.aload_n 0, 1) := by decide +kernel
theorem dX4_hourOn_119 : decode cX4_hourOn 119 = .ok (.getfield 9, 3) := by decide +kernel
theorem dX4_hourOn_122 : decode cX4_hourOn 122 = .ok (.iconst 0, 1) := by decide +kernel
theorem dX4_hourOn_123 : decode cX4_hourOn 123 = .ok (.dup2, 1) := by decide +kernel
theorem dX4_hourOn_124 : decode cX4_hourOn 124 = .ok (.iaload, 1) := by decide +kernel
theorem dX4_hourOn_125 : decode cX4_hourOn 125 = .ok (.iconst 1, 1) := by decide +kernel
theorem dX4_hourOn_126 : decode cX4_hourOn 126 = .ok (.iadd, 1) := by decide +kernel
theorem dX4_hourOn_127 : decode cX4_hourOn 127 = .ok (.iastore, 1) := by decide +kernel
theorem dX4_hourOn_128 : decode cX4_hourOn 128 = .ok (.iconst 0, 1) := by decide +kernel
theorem dX4_hourOn_129 : decode cX4_hourOn 129 = .ok (.istore_n 2, 1) := by decide +kernel
theorem dX4_hourOn_130 : decode cX4_hourOn 130 = .ok (.iload_n 2, 1) := by decide +kernel
theorem dX4_hourOn_131 : decode cX4_hourOn 131 = .ok (.aload_n 0, 1) := by decide +kernel
theorem dX4_hourOn_132 : decode cX4_hourOn 132 = .ok (.getfield 30, 3) := by decide +kernel
theorem dX4_hourOn_135 : decode cX4_hourOn 135 = .ok (.if_icmp .ge 25, 3) := by decide +kernel
theorem dX4_hourOn_138 : decode cX4_hourOn 138 = .ok (.aload_n 0, 1) := by decide +kernel
theorem dX4_hourOn_139 : decode cX4_hourOn 139 = .ok (.iload_n 2, 1) := by decide +kernel
theorem dX4_hourOn_140 : decode cX4_hourOn 140 = .ok (.iconst 0, 1) := by decide +kernel
theorem dX4_hourOn_141 : decode cX4_hourOn 141 = .ok (.invokevirtual 64, 3) := by decide +kernel
theorem dX4_hourOn_144 : decode cX4_hourOn 144 = .ok (.ifCond .ne 10, 3) := by decide +kernel
theorem dX4_hourOn_147 : decode cX4_hourOn 147 = .ok (.aload_n 0, 1) := by decide +kernel
theorem dX4_hourOn_148 : decode cX4_hourOn 148 = .ok (.iload_n 2, 1) := by decide +kernel
theorem dX4_hourOn_149 : decode cX4_hourOn 149 = .ok (.iconst 1, 1) := by decide +kernel
theorem dX4_hourOn_150 : decode cX4_hourOn 150 = .ok (.iconst 0, 1) := by decide +kernel
theorem dX4_hourOn_151 : decode cX4_hourOn 151 = .ok (.invokevirtual 67, 3) := by decide +kernel
theorem dX4_hourOn_154 : decode cX4_hourOn 154 = .ok (.iinc 2 1, 3) := by decide +kernel
theorem dX4_hourOn_157 : decode cX4_hourOn 157 = .ok (.goto (-27), 3) := by decide +kernel
theorem dX4_hourOn_160 : decode cX4_hourOn 160 = .ok (.return_, 1) := by decide +kernel
set_option maxRecDepth 20000 in
theorem ggX4_pass_X4_isIn : GoodIn wsX4_pass wsX4_isIn := goodIn_r _ [6] (by decide +kernel) (by decide +kernel)
set_option maxRecDepth 20000 in
theorem gX4_pass_X4_isIn : GoodIn wsX4_pass (va_wsS RX4 26 yX4_isIn wsX4_isIn) := goodIn_app (goodIn_of _ (by decide +kernel)) ggX4_pass_X4_isIn
set_option maxRecDepth 20000 in
theorem ggX4_pass_X4_no : GoodIn wsX4_pass wsX4_no := goodIn_r _ [10, 1, 61, 62, 63, 64, 65, 66] (by decide +kernel) (by decide +kernel)
set_option maxRecDepth 20000 in
theorem gX4_pass_X4_no : GoodIn wsX4_pass (wsV RX4 33 RX4 yX4_no wsX4_no) := goodIn_app (goodIn_of _ (by decide +kernel)) ggX4_pass_X4_no
set_option maxRecDepth 20000 in
theorem ggX4_pass_X4_hourOn : GoodIn wsX4_pass wsX4_hourOn := goodIn_r _ [14, 15, 16, 2, 17, 18, 19, 20, 21, 22, 23, 5, 24, 25, 26, 27, 28, 29, 30, 31, 32, 33, 34, 35, 36, 37, 38, 39, 40, 41, 42, 43, 44, 45, 46, 47, 48, 49, 50, 51, 52, 3, 4, 6, 53, 54, 55, 56, 57, 58, 59, 60, 61, 62, 63, 64, 65, 66] (by decide +kernel) (by decide +kernel)
set_option maxRecDepth 20000 in
theorem gX4_pass_X4_hourOn : GoodIn wsX4_pass (wsV RX4 96 RX4 yX4_hourOn wsX4_hourOn) := goodIn_app (goodIn_of _ (by decide +kernel)) ggX4_pass_X4_hourOn
theorem dX4_pass_0 : decode cX4_pass 0 = .ok (.aload_n 0, 1) := by decide +kernel
theorem dX4_pass_1 : decode cX4_pass 1 = .ok (.iconst 0, 1) := by decide +kernel
theorem dX4_pass_2 : decode cX4_pass 2 = .ok (.putfield 19, 3) := by decide +kernel
theorem dX4_pass_5 : decode cX4_pass 5 = .ok (.iload_n 1, 1) := by decide +kernel
theorem dX4_pass_6 : decode cX4_pass 6 = .ok (.iconst 1, 1) := by decide +kernel
theorem dX4_pass_7 : decode cX4_pass 7 = .ok (.sipush 168, 3) := by decide +kernel
theorem dX4_pass_10 : decode cX4_pass 10 = .ok (.invokestatic 26, 3) := by decide +kernel
theorem dX4_pass_13 : decode cX4_pass 13 = .ok (.ifCond .ne 9, 3) := by decide +kernel
theorem dX4_pass_16 : decode cX4_pass 16 = .ok (.aload_n 0, 1) := by decide +kernel
theorem dX4_pass_17 : decode cX4_pass 17 = .ok (.iconst 1, 1) := by decide +kernel
theorem dX4_pass_18 : decode cX4_pass 18 = .ok (.invokevirtual 33, 3) := by decide +kernel
theorem dX4_pass_21 : decode cX4_pass 21 = .ok (.ireturn, 1) := by decide +kernel
theorem dX4_pass_22 : decode cX4_pass 22 = .ok (.aload_n 0, 1) := by decide +kernel
theorem dX4_pass_23 : decode cX4_pass 23 = .ok (.getfield 9, 3) := by decide +kernel
theorem dX4_pass_26 : decode cX4_pass 26 = .ok (.iconst 5, 1) := by decide +kernel
theorem dX4_pass_27 : decode cX4_pass 27 = .ok (.iaload, 1) := by decide +kernel
theorem dX4_pass_28 : decode cX4_pass 28 = .ok (.istore_n 2, 1) := by decide +kernel
theorem dX4_pass_29 : decode cX4_pass 29 = .ok (.iconst 0, 1) := by decide +kernel
theorem dX4_pass_30 : decode cX4_pass 30 = .ok (.istore_n 3, 1) := by decide +kernel
theorem dX4_pass_31 : decode cX4_pass 31 = .ok (.iload_n 3, 1) := by decide +kernel
theorem dX4_pass_32 : decode cX4_pass 32 = .ok (.iload_n 1, 1) := by decide +kernel
theorem dX4_pass_33 : decode cX4_pass 33 = .ok (.if_icmp .ge 13, 3) := by decide +kernel
theorem dX4_pass_36 : decode cX4_pass 36 = .ok (.aload_n 0, 1) := by decide +kernel
theorem dX4_pass_37 : decode cX4_pass 37 = .ok (.invokevirtual 96, 3) := by decide +kernel
theorem dX4_pass_40 : decode cX4_pass 40 = .ok (.iinc 3 1, 3) := by decide +kernel
theorem dX4_pass_43 : decode cX4_pass 43 = .ok (.goto (-12), 3) := by decide +kernel
theorem dX4_pass_46 : decode cX4_pass 46 = .ok (.aload_n 0, 1) := by decide +kernel
theorem dX4_pass_47 : decode cX4_pass 47 = .ok (.getfield 9, 3) := by decide +kernel
theorem dX4_pass_50 : decode cX4_pass 50 = .ok (.iconst 5, 1) := by decide +kernel
theorem dX4_pass_51 : decode cX4_pass 51 = .ok (.iaload, 1) := by decide +kernel
theorem dX4_pass_52 : decode cX4_pass 52 = .ok (.iload_n 2, 1) := by decide +kernel
theorem dX4_pass_53 : decode cX4_pass 53 = .ok (.isub, 1) := by decide +kernel
theorem dX4_pass_54 : decode cX4_pass 54 = .ok (.ireturn, 1) := by decide +kernel
theorem dX4_keep_0 : decode cX4_keep 0 = .ok (.aload_n 0, 1) := by decide +kernel
theorem dX4_keep_1 : decode cX4_keep 1 = .ok (.getfield 9, 3) := by decide +kernel
theorem dX4_keep_4 : decode cX4_keep 4 = .ok (.iconst 0, 1) := by decide +kernel
theorem dX4_keep_5 : decode cX4_keep 5 = .ok (.aload_n 0, 1) := by decide +kernel
theorem dX4_keep_6 : decode cX4_keep 6 = .ok (.getfield 13, 3) := by decide +kernel
theorem dX4_keep_9 : decode cX4_keep 9 = .ok (.iconst 0, 1) := by decide +kernel
theorem dX4_keep_10 : decode cX4_keep 10 = .ok (.bipush 37, 2) := by decide +kernel
theorem dX4_keep_12 : decode cX4_keep 12 = .ok (.invokestatic 99, 3) := by decide +kernel
theorem dX4_keep_15 : decode cX4_keep 15 = .ok (.return_, 1) := by decide +kernel
theorem dX4_bringBack_0 : decode cX4_bringBack 0 = .ok (.aload_n 0, 1) := by decide +kernel
theorem dX4_bringBack_1 : decode cX4_bringBack 1 = .ok (.getfield 13, 3) := by decide +kernel
theorem dX4_bringBack_4 : decode cX4_bringBack 4 = .ok (.iconst 0, 1) := by decide +kernel
theorem dX4_bringBack_5 : decode cX4_bringBack 5 = .ok (.aload_n 0, 1) := by decide +kernel
theorem dX4_bringBack_6 : decode cX4_bringBack 6 = .ok (.getfield 9, 3) := by decide +kernel
theorem dX4_bringBack_9 : decode cX4_bringBack 9 = .ok (.iconst 0, 1) := by decide +kernel
theorem dX4_bringBack_10 : decode cX4_bringBack 10 = .ok (.bipush 37, 2) := by decide +kernel
theorem dX4_bringBack_12 : decode cX4_bringBack 12 = .ok (.invokestatic 99, 3) := by decide +kernel
theorem dX4_bringBack_15 : decode cX4_bringBack 15 = .ok (.return_, 1) := by decide +kernel
set_option maxRecDepth 20000 in
theorem ggX4_done_X4_isChurn : GoodIn wsX4_done wsX4_isChurn := goodIn_r _ [6, 7, 8, 9, 5, 10, 78, 79, 80, 81, 82, 83] (by decide +kernel) (by decide +kernel)
set_option maxRecDepth 20000 in
theorem gX4_done_X4_isChurn : GoodIn wsX4_done (wsV RX4 49 RX4 yX4_isChurn wsX4_isChurn) := goodIn_app (goodIn_of _ (by decide +kernel)) ggX4_done_X4_isChurn
set_option maxRecDepth 20000 in
theorem ggX4_done_X4_no : GoodIn wsX4_done wsX4_no := goodIn_r _ [14, 1, 78, 79, 80, 81, 82, 83] (by decide +kernel) (by decide +kernel)
set_option maxRecDepth 20000 in
theorem gX4_done_X4_no : GoodIn wsX4_done (wsV RX4 33 RX4 yX4_no wsX4_no) := goodIn_app (goodIn_of _ (by decide +kernel)) ggX4_done_X4_no
set_option maxRecDepth 20000 in
theorem ggX4_done_X4_ch : GoodIn wsX4_done wsX4_ch := goodIn_r _ [18, 19, 78, 79, 80, 81, 82, 83] (by decide +kernel) (by decide +kernel)
set_option maxRecDepth 20000 in
theorem gX4_done_X4_ch : GoodIn wsX4_done (wsV RX4 46 RX4 yX4_ch wsX4_ch) := goodIn_app (goodIn_of _ (by decide +kernel)) ggX4_done_X4_ch
set_option maxRecDepth 20000 in
theorem ggX4_done_X4_keep : GoodIn wsX4_done wsX4_keep := goodIn_r _ [23, 19, 24, 25, 26, 27, 28, 78, 79, 80, 81, 82, 83] (by decide +kernel) (by decide +kernel)
set_option maxRecDepth 20000 in
theorem gX4_done_X4_keep : GoodIn wsX4_done (wsV RX4 105 RX4 yX4_keep wsX4_keep) := goodIn_app (goodIn_of _ (by decide +kernel)) ggX4_done_X4_keep
set_option maxRecDepth 20000 in
theorem ggX4_done_X4_hourOn : GoodIn wsX4_done wsX4_hourOn := goodIn_r _ [32, 7, 33, 19, 34, 35, 36, 37, 38, 39, 40, 5, 41, 42, 43, 44, 45, 46, 47, 48, 49, 15, 16, 17, 18, 50, 51, 52, 53, 54, 55, 56, 57, 58, 59, 60, 61, 62, 63, 64, 65, 8, 9, 10, 66, 67, 68, 69, 70, 71, 72, 73, 78, 79, 80, 81, 82, 83] (by decide +kernel) (by decide +kernel)
set_option maxRecDepth 20000 in
theorem gX4_done_X4_hourOn : GoodIn wsX4_done (wsV RX4 96 RX4 yX4_hourOn wsX4_hourOn) := goodIn_app (goodIn_of _ (by decide +kernel)) ggX4_done_X4_hourOn
set_option maxRecDepth 20000 in
theorem ggX4_done_X4_bringBack : GoodIn wsX4_done wsX4_bringBack := goodIn_r _ [77, 24, 19, 25, 26, 27, 28, 78, 79, 80, 81, 82, 83] (by decide +kernel) (by decide +kernel)
set_option maxRecDepth 20000 in
theorem gX4_done_X4_bringBack : GoodIn wsX4_done (wsV RX4 108 RX4 yX4_bringBack wsX4_bringBack) := goodIn_app (goodIn_of _ (by decide +kernel)) ggX4_done_X4_bringBack
theorem dX4_done_0 : decode cX4_done 0 = .ok (.aload_n 0, 1) := by decide +kernel
theorem dX4_done_1 : decode cX4_done 1 = .ok (.iconst 0, 1) := by decide +kernel
theorem dX4_done_2 : decode cX4_done 2 = .ok (.putfield 19, 3) := by decide +kernel
theorem dX4_done_5 : decode cX4_done 5 = .ok (.aload_n 0, 1) := by decide +kernel
theorem dX4_done_6 : decode cX4_done 6 = .ok (.iload_n 1, 1) := by decide +kernel
theorem dX4_done_7 : decode cX4_done 7 = .ok (.invokevirtual 49, 3) := by decide +kernel
theorem dX4_done_10 : decode cX4_done 10 = .ok (.ifCond .ne 9, 3) := by decide +kernel
theorem dX4_done_13 : decode cX4_done 13 = .ok (.aload_n 0, 1) := by decide +kernel
theorem dX4_done_14 : decode cX4_done 14 = .ok (.iconst 1, 1) := by decide +kernel
theorem dX4_done_15 : decode cX4_done 15 = .ok (.invokevirtual 33, 3) := by decide +kernel
theorem dX4_done_18 : decode cX4_done 18 = .ok (.ireturn, 1) := by decide +kernel
theorem dX4_done_19 : decode cX4_done 19 = .ok (.aload_n 0, 1) := by decide +kernel
theorem dX4_done_20 : decode cX4_done 20 = .ok (.iload_n 1, 1) := by decide +kernel
theorem dX4_done_21 : decode cX4_done 21 = .ok (.iconst 1, 1) := by decide +kernel
theorem dX4_done_22 : decode cX4_done 22 = .ok (.invokevirtual 46, 3) := by decide +kernel
theorem dX4_done_25 : decode cX4_done 25 = .ok (.ifCond .ne 5, 3) := by decide +kernel
theorem dX4_done_28 : decode cX4_done 28 = .ok (.iconst (-1), 1) := by decide +kernel
theorem dX4_done_29 : decode cX4_done 29 = .ok (.ireturn, 1) := by decide +kernel
theorem dX4_done_30 : decode cX4_done 30 = .ok (.aload_n 0, 1) := by decide +kernel
theorem dX4_done_31 : decode cX4_done 31 = .ok (.invokevirtual 105, 3) := by decide +kernel
theorem dX4_done_34 : decode cX4_done 34 = .ok (.iconst 0, 1) := by decide +kernel
theorem dX4_done_35 : decode cX4_done 35 = .ok (.istore_n 2, 1) := by decide +kernel
theorem dX4_done_36 : decode cX4_done 36 = .ok (.aload_n 0, 1) := by decide +kernel
theorem dX4_done_37 : decode cX4_done 37 = .ok (.iload_n 1, 1) := by decide +kernel
theorem dX4_done_38 : decode cX4_done 38 = .ok (.iconst 2, 1) := by decide +kernel
theorem dX4_done_39 : decode cX4_done 39 = .ok (.invokevirtual 46, 3) := by decide +kernel
theorem dX4_done_42 : decode cX4_done 42 = .ok (.bipush 50, 2) := by decide +kernel
theorem dX4_done_44 : decode cX4_done 44 = .ok (.if_icmp .ge 19, 3) := by decide +kernel
theorem dX4_done_47 : decode cX4_done 47 = .ok (.iload_n 2, 1) := by decide +kernel
theorem dX4_done_48 : decode cX4_done 48 = .ok (.bipush 100, 2) := by decide +kernel
theorem dX4_done_50 : decode cX4_done 50 = .ok (.if_icmp .ge 13, 3) := by decide +kernel
theorem dX4_done_53 : decode cX4_done 53 = .ok (.aload_n 0, 1) := by decide +kernel
theorem dX4_done_54 : decode cX4_done 54 = .ok (.invokevirtual 96, 3) := by decide +kernel
theorem dX4_done_57 : decode cX4_done 57 = .ok (.iinc 2 1, 3) := by decide +kernel
theorem dX4_done_60 : decode cX4_done 60 = .ok (.goto (-24), 3) := by decide +kernel
theorem dX4_done_63 : decode cX4_done 63 = .ok (.aload_n 0, 1) := by decide +kernel
theorem dX4_done_64 : decode cX4_done 64 = .ok (.iload_n 1, 1) := by decide +kernel
theorem dX4_done_65 : decode cX4_done 65 = .ok (.iconst 2, 1) := by decide +kernel
theorem dX4_done_66 : decode cX4_done 66 = .ok (.invokevirtual 46, 3) := by decide +kernel
theorem dX4_done_69 : decode cX4_done 69 = .ok (.bipush 50, 2) := by decide +kernel
theorem dX4_done_71 : decode cX4_done 71 = .ok (.if_icmp .ge 7, 3) := by decide +kernel
theorem dX4_done_74 : decode cX4_done 74 = .ok (.iconst (-1), 1) := by decide +kernel
theorem dX4_done_75 : decode cX4_done 75 = .ok (.goto 4, 3) := by decide +kernel
theorem dX4_done_78 : decode cX4_done 78 = .ok (.iload_n 2, 1) := by decide +kernel
theorem dX4_done_79 : decode cX4_done 79 = .ok (.istore_n 3, 1) := by decide +kernel
theorem dX4_done_80 : decode cX4_done 80 = .ok (.aload_n 0, 1) := by decide +kernel
theorem dX4_done_81 : decode cX4_done 81 = .ok (.invokevirtual 108, 3) := by decide +kernel
theorem dX4_done_84 : decode cX4_done 84 = .ok (.iload_n 3, 1) := by decide +kernel
theorem dX4_done_85 : decode cX4_done 85 = .ok (.ireturn, 1) := by decide +kernel
set_option maxRecDepth 20000 in
theorem ggX4_foresee_X4_isIn : GoodIn wsX4_foresee wsX4_isIn := goodIn_r _ [5] (by decide +kernel) (by decide +kernel)
set_option maxRecDepth 20000 in
theorem gX4_foresee_X4_isIn : GoodIn wsX4_foresee (va_wsS RX4 26 yX4_isIn wsX4_isIn) := goodIn_app (goodIn_of _ (by decide +kernel)) ggX4_foresee_X4_isIn
set_option maxRecDepth 20000 in
theorem ggX4_foresee_X4_no : GoodIn wsX4_foresee wsX4_no := goodIn_r _ [9, 1, 83, 84, 85, 86, 87, 88] (by decide +kernel) (by decide +kernel)
set_option maxRecDepth 20000 in
theorem gX4_foresee_X4_no : GoodIn wsX4_foresee (wsV RX4 33 RX4 yX4_no wsX4_no) := goodIn_app (goodIn_of _ (by decide +kernel)) ggX4_foresee_X4_no
set_option maxRecDepth 20000 in
theorem ggX4_foresee_X4_keep : GoodIn wsX4_foresee wsX4_keep := goodIn_r _ [13, 14, 15, 16, 17, 18, 19, 83, 84, 85, 86, 87, 88] (by decide +kernel) (by decide +kernel)
set_option maxRecDepth 20000 in
theorem gX4_foresee_X4_keep : GoodIn wsX4_foresee (wsV RX4 105 RX4 yX4_keep wsX4_keep) := goodIn_app (goodIn_of _ (by decide +kernel)) ggX4_foresee_X4_keep
set_option maxRecDepth 20000 in
theorem ggX4_foresee_X4_hourOn : GoodIn wsX4_foresee wsX4_hourOn := goodIn_r _ [23, 24, 25, 14, 26, 27, 28, 29, 30, 31, 32, 4, 33, 34, 35, 36, 37, 38, 39, 40, 41, 42, 43, 44, 45, 46, 47, 48, 49, 50, 51, 52, 53, 54, 55, 56, 57, 58, 59, 60, 61, 2, 3, 5, 62, 63, 64, 65, 66, 67, 68, 69, 83, 84, 85, 86, 87, 88] (by decide +kernel) (by decide +kernel)
set_option maxRecDepth 20000 in
theorem gX4_foresee_X4_hourOn : GoodIn wsX4_foresee (wsV RX4 96 RX4 yX4_hourOn wsX4_hourOn) := goodIn_app (goodIn_of _ (by decide +kernel)) ggX4_foresee_X4_hourOn
set_option maxRecDepth 20000 in
theorem ggX4_foresee_X4_counted : GoodIn wsX4_foresee wsX4_counted := goodIn_r _ [73, 74, 14, 30, 31, 32, 4, 33, 34, 75, 76, 77, 78, 25, 54, 55, 56, 57, 83, 84, 85, 86, 87, 88] (by decide +kernel) (by decide +kernel)
set_option maxRecDepth 20000 in
theorem gX4_foresee_X4_counted : GoodIn wsX4_foresee (wsV RX4 80 RX4 yX4_counted wsX4_counted) := goodIn_app (goodIn_of _ (by decide +kernel)) ggX4_foresee_X4_counted
set_option maxRecDepth 20000 in
theorem ggX4_foresee_X4_bringBack : GoodIn wsX4_foresee wsX4_bringBack := goodIn_r _ [82, 15, 14, 16, 17, 18, 19, 83, 84, 85, 86, 87, 88] (by decide +kernel) (by decide +kernel)
set_option maxRecDepth 20000 in
theorem gX4_foresee_X4_bringBack : GoodIn wsX4_foresee (wsV RX4 108 RX4 yX4_bringBack wsX4_bringBack) := goodIn_app (goodIn_of _ (by decide +kernel)) ggX4_foresee_X4_bringBack
theorem dX4_foresee_0 : decode cX4_foresee 0 = .ok (.aload_n 0, 1) := by decide +kernel
theorem dX4_foresee_1 : decode cX4_foresee 1 = .ok (.iconst 0, 1) := by decide +kernel
theorem dX4_foresee_2 : decode cX4_foresee 2 = .ok (.putfield 19, 3) := by decide +kernel
theorem dX4_foresee_5 : decode cX4_foresee 5 = .ok (.iload_n 1, 1) := by decide +kernel
theorem dX4_foresee_6 : decode cX4_foresee 6 = .ok (.iconst 1, 1) := by decide +kernel
theorem dX4_foresee_7 : decode cX4_foresee 7 = .ok (.sipush 168, 3) := by decide +kernel
theorem dX4_foresee_10 : decode cX4_foresee 10 = .ok (.invokestatic 26, 3) := by decide +kernel
theorem dX4_foresee_13 : decode cX4_foresee 13 = .ok (.ifCond .ne 9, 3) := by decide +kernel
theorem dX4_foresee_16 : decode cX4_foresee 16 = .ok (.aload_n 0, 1) := by decide +kernel
theorem dX4_foresee_17 : decode cX4_foresee 17 = .ok (.iconst 1, 1) := by decide +kernel
theorem dX4_foresee_18 : decode cX4_foresee 18 = .ok (.invokevirtual 33, 3) := by decide +kernel
theorem dX4_foresee_21 : decode cX4_foresee 21 = .ok (.ireturn, 1) := by decide +kernel
theorem dX4_foresee_22 : decode cX4_foresee 22 = .ok (.iload_n 2, 1) := by decide +kernel
theorem dX4_foresee_23 : decode cX4_foresee 23 = .ok (.iconst 2, 1) := by decide +kernel
theorem dX4_foresee_24 : decode cX4_foresee 24 = .ok (.if_icmp .eq 20, 3) := by decide +kernel
theorem dX4_foresee_27 : decode cX4_foresee 27 = .ok (.iload_n 2, 1) := by decide +kernel
theorem dX4_foresee_28 : decode cX4_foresee 28 = .ok (.bipush 6, 2) := by decide +kernel
theorem dX4_foresee_30 : decode cX4_foresee 30 = .ok (.bipush 9, 2) := by decide +kernel
theorem dX4_foresee_32 : decode cX4_foresee 32 = .ok (.invokestatic 26, 3) := by decide +kernel
theorem dX4_foresee_35 : decode cX4_foresee 35 = .ok (.ifCond .ne 9, 3) := by decide +kernel
theorem dX4_foresee_38 : decode cX4_foresee 38 = .ok (.aload_n 0, 1) := by decide +kernel
theorem dX4_foresee_39 : decode cX4_foresee 39 = .ok (.iconst 2, 1) := by decide +kernel
theorem dX4_foresee_40 : decode cX4_foresee 40 = .ok (.invokevirtual 33, 3) := by decide +kernel
theorem dX4_foresee_43 : decode cX4_foresee 43 = .ok (.ireturn, 1) := by decide +kernel
theorem dX4_foresee_44 : decode cX4_foresee 44 = .ok (.aload_n 0, 1) := by decide +kernel
theorem dX4_foresee_45 : decode cX4_foresee 45 = .ok (.invokevirtual 105, 3) := by decide +kernel
theorem dX4_foresee_48 : decode cX4_foresee 48 = .ok (.iconst 0, 1) := by decide +kernel
theorem dX4_foresee_49 : decode cX4_foresee 49 = .ok (.istore_n 3, 1) := by decide +kernel
theorem dX4_foresee_50 : decode cX4_foresee 50 = .ok (.iload_n 3, 1) := by decide +kernel
theorem dX4_foresee_51 : decode cX4_foresee 51 = .ok (.iload_n 1, 1) := by decide +kernel
theorem dX4_foresee_52 : decode cX4_foresee 52 = .ok (.if_icmp .ge 13, 3) := by decide +kernel
theorem dX4_foresee_55 : decode cX4_foresee 55 = .ok (.aload_n 0, 1) := by decide +kernel
theorem dX4_foresee_56 : decode cX4_foresee 56 = .ok (.invokevirtual 96, 3) := by decide +kernel
theorem dX4_foresee_59 : decode cX4_foresee 59 = .ok (.iinc 3 1, 3) := by decide +kernel
theorem dX4_foresee_62 : decode cX4_foresee 62 = .ok (.goto (-12), 3) := by decide +kernel
theorem dX4_foresee_65 : decode cX4_foresee 65 = .ok (.aload_n 0, 1) := by decide +kernel
theorem dX4_foresee_66 : decode cX4_foresee 66 = .ok (.iload_n 2, 1) := by decide +kernel
theorem dX4_foresee_67 : decode cX4_foresee 67 = .ok (.invokevirtual 80, 3) := by decide +kernel
theorem dX4_foresee_70 : decode cX4_foresee 70 = .ok (.istore_n 3, 1) := by decide +kernel
theorem dX4_foresee_71 : decode cX4_foresee 71 = .ok (.aload_n 0, 1) := by decide +kernel
theorem dX4_foresee_72 : decode cX4_foresee 72 = .ok (.invokevirtual 108, 3) := by decide +kernel
theorem dX4_foresee_75 : decode cX4_foresee 75 = .ok (.iload_n 3, 1) := by decide +kernel
theorem dX4_foresee_76 : decode cX4_foresee 76 = .ok (.ireturn, 1) := by decide +kernel
theorem dX4_lasts_0 : decode cX4_lasts 0 = .ok (.aload_n 0, 1) := by decide +kernel
theorem dX4_lasts_1 : decode cX4_lasts 1 = .ok (.iconst 0, 1) := by decide +kernel
theorem dX4_lasts_2 : decode cX4_lasts 2 = .ok (.putfield 19, 3) := by decide +kernel
theorem dX4_lasts_5 : decode cX4_lasts 5 = .ok (.aload_n 0, 1) := by decide +kernel
theorem dX4_lasts_6 : decode cX4_lasts 6 = .ok (.getfield 9, 3) := by decide +kernel
theorem dX4_lasts_9 : decode cX4_lasts 9 = .ok (.iconst 1, 1) := by decide +kernel
theorem dX4_lasts_10 : decode cX4_lasts 10 = .ok (.iaload, 1) := by decide +kernel
theorem dX4_lasts_11 : decode cX4_lasts 11 = .ok (.istore_n 1, 1) := by decide +kernel
theorem dX4_lasts_12 : decode cX4_lasts 12 = .ok (.aload_n 0, 1) := by decide +kernel
theorem dX4_lasts_13 : decode cX4_lasts 13 = .ok (.getfield 9, 3) := by decide +kernel
theorem dX4_lasts_16 : decode cX4_lasts 16 = .ok (.iconst 0, 1) := by decide +kernel
theorem dX4_lasts_17 : decode cX4_lasts 17 = .ok (.iaload, 1) := by decide +kernel
theorem dX4_lasts_18 : decode cX4_lasts 18 = .ok (.istore_n 2, 1) := by decide +kernel
theorem dX4_lasts_19 : decode cX4_lasts 19 = .ok (.iload_n 1, 1) := by decide +kernel
theorem dX4_lasts_20 : decode cX4_lasts 20 = .ok (.ifCond .le 46, 3) := by decide +kernel
theorem dX4_lasts_23 : decode cX4_lasts 23 = .ok (.iload_n 2, 1) := by decide +kernel
theorem dX4_lasts_24 : decode cX4_lasts 24 = .ok (.aload_n 0, 1) := by decide +kernel
theorem dX4_lasts_25 : decode cX4_lasts 25 = .ok (.getfield 9, 3) := by decide +kernel
theorem dX4_lasts_28 : decode cX4_lasts 28 = .ok (.iconst 0, 1) := by decide +kernel
theorem dX4_lasts_29 : decode cX4_lasts 29 = .ok (.iaload, 1) := by decide +kernel
theorem dX4_lasts_30 : decode cX4_lasts 30 = .ok (.isub, 1) := by decide +kernel
theorem dX4_lasts_31 : decode cX4_lasts 31 = .ok (.sipush 999, 3) := by decide +kernel
theorem dX4_lasts_34 : decode cX4_lasts 34 = .ok (.if_icmp .ge 32, 3) := by decide +kernel
theorem dX4_lasts_37 : decode cX4_lasts 37 = .ok (.iload_n 2, 1) := by decide +kernel
theorem dX4_lasts_38 : decode cX4_lasts 38 = .ok (.iconst 4, 1) := by decide +kernel
theorem dX4_lasts_39 : decode cX4_lasts 39 = .ok (.irem, 1) := by decide +kernel
theorem dX4_lasts_40 : decode cX4_lasts 40 = .ok (.ifCond .ne 20, 3) := by decide +kernel
theorem dX4_lasts_43 : decode cX4_lasts 43 = .ok (.iload_n 1, 1) := by decide +kernel
theorem dX4_lasts_44 : decode cX4_lasts 44 = .ok (.aload_n 0, 1) := by decide +kernel
theorem dX4_lasts_45 : decode cX4_lasts 45 = .ok (.getfield 16, 3) := by decide +kernel
theorem dX4_lasts_48 : decode cX4_lasts 48 = .ok (.iload_n 2, 1) := by decide +kernel
theorem dX4_lasts_49 : decode cX4_lasts 49 = .ok (.bipush 24, 2) := by decide +kernel
theorem dX4_lasts_51 : decode cX4_lasts 51 = .ok (.idiv, 1) := by decide +kernel
theorem dX4_lasts_52 : decode cX4_lasts 52 = .ok (.bipush 7, 2) := by decide +kernel
theorem dX4_lasts_54 : decode cX4_lasts 54 = .ok (.irem, 1) := by decide +kernel
theorem dX4_lasts_55 : decode cX4_lasts 55 = .ok (.iaload, 1) := by decide +kernel
theorem dX4_lasts_56 : decode cX4_lasts 56 = .ok (.iconst 5, 1) := by decide +kernel
theorem dX4_lasts_57 : decode cX4_lasts 57 = .ok (.idiv, 1) := by decide +kernel
theorem dX4_lasts_58 : decode cX4_lasts 58 = .ok (.isub, 1) := by decide +kernel
theorem dX4_lasts_59 : decode cX4_lasts 59 = .ok (.istore_n 1, 1) := by decide +kernel
theorem dX4_lasts_60 : decode cX4_lasts 60 = .ok (.iinc 2 1, 3) := by decide +kernel
theorem dX4_lasts_63 : decode cX4_lasts 63 = .ok (.goto (-44), 3) := by decide +kernel
theorem dX4_lasts_66 : decode cX4_lasts 66 = .ok (.iload_n 1, 1) := by decide +kernel
theorem dX4_lasts_67 : decode cX4_lasts 67 = .ok (.ifCond .le 7, 3) := by decide +kernel
theorem dX4_lasts_70 : decode cX4_lasts 70 = .ok (.iconst (-1), 1) := by decide +kernel
theorem dX4_lasts_71 : decode cX4_lasts 71 = .ok (.goto 11, 3) := by decide +kernel
theorem dX4_lasts_74 : decode cX4_lasts 74 = .ok (.iload_n 2, 1) := by decide +kernel
theorem dX4_lasts_75 : decode cX4_lasts 75 = .ok (.aload_n 0, 1) := by decide +kernel
theorem dX4_lasts_76 : decode cX4_lasts 76 = .ok (.getfield 9, 3) := by decide +kernel
theorem dX4_lasts_79 : decode cX4_lasts 79 = .ok (.iconst 0, 1) := by decide +kernel
theorem dX4_lasts_80 : decode cX4_lasts 80 = .ok (.iaload, 1) := by decide +kernel
theorem dX4_lasts_81 : decode cX4_lasts 81 = .ok (.isub, 1) := by decide +kernel
theorem dX4_lasts_82 : decode cX4_lasts 82 = .ok (.ireturn, 1) := by decide +kernel
set_option maxRecDepth 20000 in
theorem ggX4_salt_X4_isChurn : GoodIn wsX4_salt wsX4_isChurn := goodIn_r _ [6, 7, 8, 9, 5, 10, 28, 29, 30, 31, 32, 33] (by decide +kernel) (by decide +kernel)
set_option maxRecDepth 20000 in
theorem gX4_salt_X4_isChurn : GoodIn wsX4_salt (wsV RX4 49 RX4 yX4_isChurn wsX4_isChurn) := goodIn_app (goodIn_of _ (by decide +kernel)) ggX4_salt_X4_isChurn
set_option maxRecDepth 20000 in
theorem ggX4_salt_X4_no : GoodIn wsX4_salt wsX4_no := goodIn_r _ [14, 1, 28, 29, 30, 31, 32, 33] (by decide +kernel) (by decide +kernel)
set_option maxRecDepth 20000 in
theorem gX4_salt_X4_no : GoodIn wsX4_salt (wsV RX4 33 RX4 yX4_no wsX4_no) := goodIn_app (goodIn_of _ (by decide +kernel)) ggX4_salt_X4_no
set_option maxRecDepth 20000 in
theorem ggX4_salt_X4_isIn : GoodIn wsX4_salt wsX4_isIn := goodIn_r _ [10] (by decide +kernel) (by decide +kernel)
set_option maxRecDepth 20000 in
theorem gX4_salt_X4_isIn : GoodIn wsX4_salt (va_wsS RX4 26 yX4_isIn wsX4_isIn) := goodIn_app (goodIn_of _ (by decide +kernel)) ggX4_salt_X4_isIn
set_option maxRecDepth 20000 in
theorem ggX4_salt_X4_packed : GoodIn wsX4_salt wsX4_packed := goodIn_r _ [18, 19, 20, 21, 22, 23, 24, 25, 5, 26, 27, 28, 29, 30, 31, 32, 33] (by decide +kernel) (by decide +kernel)
set_option maxRecDepth 20000 in
theorem gX4_salt_X4_packed : GoodIn wsX4_salt (wsV RX4 53 RX4 yX4_packed wsX4_packed) := goodIn_app (goodIn_of _ (by decide +kernel)) ggX4_salt_X4_packed
theorem dX4_salt_0 : decode cX4_salt 0 = .ok (.aload_n 0, 1) := by decide +kernel
theorem dX4_salt_1 : decode cX4_salt 1 = .ok (.iconst 0, 1) := by decide +kernel
theorem dX4_salt_2 : decode cX4_salt 2 = .ok (.putfield 19, 3) := by decide +kernel
theorem dX4_salt_5 : decode cX4_salt 5 = .ok (.aload_n 0, 1) := by decide +kernel
theorem dX4_salt_6 : decode cX4_salt 6 = .ok (.iload_n 1, 1) := by decide +kernel
theorem dX4_salt_7 : decode cX4_salt 7 = .ok (.invokevirtual 49, 3) := by decide +kernel
theorem dX4_salt_10 : decode cX4_salt 10 = .ok (.ifCond .ne 9, 3) := by decide +kernel
theorem dX4_salt_13 : decode cX4_salt 13 = .ok (.aload_n 0, 1) := by decide +kernel
theorem dX4_salt_14 : decode cX4_salt 14 = .ok (.iconst 1, 1) := by decide +kernel
theorem dX4_salt_15 : decode cX4_salt 15 = .ok (.invokevirtual 33, 3) := by decide +kernel
theorem dX4_salt_18 : decode cX4_salt 18 = .ok (.ireturn, 1) := by decide +kernel
theorem dX4_salt_19 : decode cX4_salt 19 = .ok (.iload_n 2, 1) := by decide +kernel
theorem dX4_salt_20 : decode cX4_salt 20 = .ok (.iconst 0, 1) := by decide +kernel
theorem dX4_salt_21 : decode cX4_salt 21 = .ok (.bipush 60, 2) := by decide +kernel
theorem dX4_salt_23 : decode cX4_salt 23 = .ok (.invokestatic 26, 3) := by decide +kernel
theorem dX4_salt_26 : decode cX4_salt 26 = .ok (.ifCond .ne 9, 3) := by decide +kernel
theorem dX4_salt_29 : decode cX4_salt 29 = .ok (.aload_n 0, 1) := by decide +kernel
theorem dX4_salt_30 : decode cX4_salt 30 = .ok (.iconst 2, 1) := by decide +kernel
theorem dX4_salt_31 : decode cX4_salt 31 = .ok (.invokevirtual 33, 3) := by decide +kernel
theorem dX4_salt_34 : decode cX4_salt 34 = .ok (.ireturn, 1) := by decide +kernel
theorem dX4_salt_35 : decode cX4_salt 35 = .ok (.iconst 0, 1) := by decide +kernel
theorem dX4_salt_36 : decode cX4_salt 36 = .ok (.istore_n 3, 1) := by decide +kernel
theorem dX4_salt_37 : decode cX4_salt 37 = .ok (.iconst 1, 1) := by decide +kernel
theorem dX4_salt_38 : decode cX4_salt 38 = .ok (.istore 4, 2) := by decide +kernel
theorem dX4_salt_40 : decode cX4_salt 40 = .ok (.iload 4, 2) := by decide +kernel
theorem dX4_salt_42 : decode cX4_salt 42 = .ok (.bipush 60, 2) := by decide +kernel
theorem dX4_salt_44 : decode cX4_salt 44 = .ok (.if_icmp .gt 30, 3) := by decide +kernel
theorem dX4_salt_47 : decode cX4_salt 47 = .ok (.aload_n 0, 1) := by decide +kernel
theorem dX4_salt_48 : decode cX4_salt 48 = .ok (.iload_n 1, 1) := by decide +kernel
theorem dX4_salt_49 : decode cX4_salt 49 = .ok (.iload_n 2, 1) := by decide +kernel
theorem dX4_salt_50 : decode cX4_salt 50 = .ok (.iload 4, 2) := by decide +kernel
theorem dX4_salt_52 : decode cX4_salt 52 = .ok (.invokevirtual 53, 3) := by decide +kernel
theorem dX4_salt_55 : decode cX4_salt 55 = .ok (.aload_n 0, 1) := by decide +kernel
theorem dX4_salt_56 : decode cX4_salt 56 = .ok (.iload_n 1, 1) := by decide +kernel
theorem dX4_salt_57 : decode cX4_salt 57 = .ok (.iload_n 2, 1) := by decide +kernel
theorem dX4_salt_58 : decode cX4_salt 58 = .ok (.iload_n 3, 1) := by decide +kernel
theorem dX4_salt_59 : decode cX4_salt 59 = .ok (.invokevirtual 53, 3) := by decide +kernel
theorem dX4_salt_62 : decode cX4_salt 62 = .ok (.if_icmp .le 6, 3) := by decide +kernel
theorem dX4_salt_65 : decode cX4_salt 65 = .ok (.iload 4, 2) := by decide +kernel
theorem dX4_salt_67 : decode cX4_salt 67 = .ok (.istore_n 3, 1) := by decide +kernel
theorem dX4_salt_68 : decode cX4_salt 68 = .ok (.iinc 4 1, 3) := by decide +kernel
theorem dX4_salt_71 : decode cX4_salt 71 = .ok (.goto (-31), 3) := by decide +kernel
theorem dX4_salt_74 : decode cX4_salt 74 = .ok (.iload_n 3, 1) := by decide +kernel
theorem dX4_salt_75 : decode cX4_salt 75 = .ok (.ireturn, 1) := by decide +kernel
set_option maxRecDepth 20000 in
theorem ggX4_share_X4_sum : GoodIn wsX4_share wsX4_sum := goodIn_r _ [7, 8, 9, 10, 11, 6, 12, 2, 13, 14, 15, 16, 17, 18] (by decide +kernel) (by decide +kernel)
set_option maxRecDepth 20000 in
theorem gX4_share_X4_sum : GoodIn wsX4_share (wsV RX4 77 RX4 yX4_sum wsX4_sum) := goodIn_app (goodIn_of _ (by decide +kernel)) ggX4_share_X4_sum
theorem dX4_share_0 : decode cX4_share 0 = .ok (.aload_n 0, 1) := by decide +kernel
theorem dX4_share_1 : decode cX4_share 1 = .ok (.iconst 0, 1) := by decide +kernel
theorem dX4_share_2 : decode cX4_share 2 = .ok (.putfield 19, 3) := by decide +kernel
theorem dX4_share_5 : decode cX4_share 5 = .ok (.aload_n 0, 1) := by decide +kernel
theorem dX4_share_6 : decode cX4_share 6 = .ok (.iconst 2, 1) := by decide +kernel
theorem dX4_share_7 : decode cX4_share 7 = .ok (.invokevirtual 77, 3) := by decide +kernel
theorem dX4_share_10 : decode cX4_share 10 = .ok (.aload_n 0, 1) := by decide +kernel
theorem dX4_share_11 : decode cX4_share 11 = .ok (.getfield 9, 3) := by decide +kernel
theorem dX4_share_14 : decode cX4_share 14 = .ok (.bipush 6, 2) := by decide +kernel
theorem dX4_share_16 : decode cX4_share 16 = .ok (.iaload, 1) := by decide +kernel
theorem dX4_share_17 : decode cX4_share 17 = .ok (.iadd, 1) := by decide +kernel
theorem dX4_share_18 : decode cX4_share 18 = .ok (.istore_n 1, 1) := by decide +kernel
theorem dX4_share_19 : decode cX4_share 19 = .ok (.iload_n 1, 1) := by decide +kernel
theorem dX4_share_20 : decode cX4_share 20 = .ok (.ifCond .ne 7, 3) := by decide +kernel
theorem dX4_share_23 : decode cX4_share 23 = .ok (.dconst 0, 1) := by decide +kernel
theorem dX4_share_24 : decode cX4_share 24 = .ok (.goto 12, 3) := by decide +kernel
theorem dX4_share_27 : decode cX4_share 27 = .ok (.aload_n 0, 1) := by decide +kernel
theorem dX4_share_28 : decode cX4_share 28 = .ok (.iconst 2, 1) := by decide +kernel
theorem dX4_share_29 : decode cX4_share 29 = .ok (.invokevirtual 77, 3) := by decide +kernel
theorem dX4_share_32 : decode cX4_share 32 = .ok (.i2d, 1) := by decide +kernel
theorem dX4_share_33 : decode cX4_share 33 = .ok (.iload_n 1, 1) := by decide +kernel
theorem dX4_share_34 : decode cX4_share 34 = .ok (.i2d, 1) := by decide +kernel
theorem dX4_share_35 : decode cX4_share 35 = .ok (.ddiv, 1) := by decide +kernel
theorem dX4_share_36 : decode cX4_share 36 = .ok (.dreturn, 1) := by decide +kernel
set_option maxRecDepth 20000 in
theorem ggX4_digest_X4_counted : GoodIn wsX4_digest wsX4_counted := goodIn_r _ [12, 13, 6, 14, 15, 16, 11, 17, 4, 18, 19, 20, 21, 7, 22, 23, 24, 25, 26, 27, 28, 29, 30, 31] (by decide +kernel) (by decide +kernel)
set_option maxRecDepth 20000 in
theorem gX4_digest_X4_counted : GoodIn wsX4_digest (wsV RX4 80 RX4 yX4_counted wsX4_counted) := goodIn_app (goodIn_of _ (by decide +kernel)) ggX4_digest_X4_counted
theorem dX4_digest_0 : decode cX4_digest 0 = .ok (.aload_n 0, 1) := by decide +kernel
theorem dX4_digest_1 : decode cX4_digest 1 = .ok (.iconst 0, 1) := by decide +kernel
theorem dX4_digest_2 : decode cX4_digest 2 = .ok (.putfield 19, 3) := by decide +kernel
theorem dX4_digest_5 : decode cX4_digest 5 = .ok (.ldc2_w 111, 3) := by decide +kernel
theorem dX4_digest_8 : decode cX4_digest 8 = .ok (.lstore_n 1, 1) := by decide +kernel
theorem dX4_digest_9 : decode cX4_digest 9 = .ok (.iconst 0, 1) := by decide +kernel
theorem dX4_digest_10 : decode cX4_digest 10 = .ok (.istore_n 3, 1) := by decide +kernel
theorem dX4_digest_11 : decode cX4_digest 11 = .ok (.iload_n 3, 1) := by decide +kernel
theorem dX4_digest_12 : decode cX4_digest 12 = .ok (.bipush 10, 2) := by decide +kernel
theorem dX4_digest_14 : decode cX4_digest 14 = .ok (.if_icmp .ge 22, 3) := by decide +kernel
theorem dX4_digest_17 : decode cX4_digest 17 = .ok (.lload_n 1, 1) := by decide +kernel
theorem dX4_digest_18 : decode cX4_digest 18 = .ok (.ldc2_w 113, 3) := by decide +kernel
theorem dX4_digest_21 : decode cX4_digest 21 = .ok (.lmul, 1) := by decide +kernel
theorem dX4_digest_22 : decode cX4_digest 22 = .ok (.aload_n 0, 1) := by decide +kernel
theorem dX4_digest_23 : decode cX4_digest 23 = .ok (.iload_n 3, 1) := by decide +kernel
theorem dX4_digest_24 : decode cX4_digest 24 = .ok (.invokevirtual 80, 3) := by decide +kernel
theorem dX4_digest_27 : decode cX4_digest 27 = .ok (.i2l, 1) := by decide +kernel
theorem dX4_digest_28 : decode cX4_digest 28 = .ok (.ladd, 1) := by decide +kernel
theorem dX4_digest_29 : decode cX4_digest 29 = .ok (.lstore_n 1, 1) := by decide +kernel
theorem dX4_digest_30 : decode cX4_digest 30 = .ok (.iinc 3 1, 3) := by decide +kernel
theorem dX4_digest_33 : decode cX4_digest 33 = .ok (.goto (-22), 3) := by decide +kernel
theorem dX4_digest_36 : decode cX4_digest 36 = .ok (.iconst 0, 1) := by decide +kernel
theorem dX4_digest_37 : decode cX4_digest 37 = .ok (.istore_n 3, 1) := by decide +kernel
theorem dX4_digest_38 : decode cX4_digest 38 = .ok (.iload_n 3, 1) := by decide +kernel
theorem dX4_digest_39 : decode cX4_digest 39 = .ok (.bipush 7, 2) := by decide +kernel
theorem dX4_digest_41 : decode cX4_digest 41 = .ok (.if_icmp .ge 23, 3) := by decide +kernel
theorem dX4_digest_44 : decode cX4_digest 44 = .ok (.lload_n 1, 1) := by decide +kernel
theorem dX4_digest_45 : decode cX4_digest 45 = .ok (.ldc2_w 113, 3) := by decide +kernel
theorem dX4_digest_48 : decode cX4_digest 48 = .ok (.lmul, 1) := by decide +kernel
theorem dX4_digest_49 : decode cX4_digest 49 = .ok (.aload_n 0, 1) := by decide +kernel
theorem dX4_digest_50 : decode cX4_digest 50 = .ok (.getfield 16, 3) := by decide +kernel
theorem dX4_digest_53 : decode cX4_digest 53 = .ok (.iload_n 3, 1) := by decide +kernel
theorem dX4_digest_54 : decode cX4_digest 54 = .ok (.iaload, 1) := by decide +kernel
theorem dX4_digest_55 : decode cX4_digest 55 = .ok (.i2l, 1) := by decide +kernel
theorem dX4_digest_56 : decode cX4_digest 56 = .ok (.ladd, 1) := by decide +kernel
theorem dX4_digest_57 : decode cX4_digest 57 = .ok (.lstore_n 1, 1) := by decide +kernel
theorem dX4_digest_58 : decode cX4_digest 58 = .ok (.iinc 3 1, 3) := by decide +kernel
theorem dX4_digest_61 : decode cX4_digest 61 = .ok (.goto (-23), 3) := by decide +kernel
theorem dX4_digest_64 : decode cX4_digest 64 = .ok (.iconst 0, 1) := by decide +kernel
theorem dX4_digest_65 : decode cX4_digest 65 = .ok (.istore_n 3, 1) := by decide +kernel
theorem dX4_digest_66 : decode cX4_digest 66 = .ok (.iload_n 3, 1) := by decide +kernel
theorem dX4_digest_67 : decode cX4_digest 67 = .ok (.iconst 3, 1) := by decide +kernel
theorem dX4_digest_68 : decode cX4_digest 68 = .ok (.aload_n 0, 1) := by decide +kernel
theorem dX4_digest_69 : decode cX4_digest 69 = .ok (.getfield 23, 3) := by decide +kernel
theorem dX4_digest_72 : decode cX4_digest 72 = .ok (.imul, 1) := by decide +kernel
theorem dX4_digest_73 : decode cX4_digest 73 = .ok (.if_icmp .ge 26, 3) := by decide +kernel
theorem dX4_digest_76 : decode cX4_digest 76 = .ok (.lload_n 1, 1) := by decide +kernel
theorem dX4_digest_77 : decode cX4_digest 77 = .ok (.ldc2_w 113, 3) := by decide +kernel
theorem dX4_digest_80 : decode cX4_digest 80 = .ok (.lmul, 1) := by decide +kernel
theorem dX4_digest_81 : decode cX4_digest 81 = .ok (.aload_n 0, 1) := by decide +kernel
theorem dX4_digest_82 : decode cX4_digest 82 = .ok (.getfield 9, 3) := by decide +kernel
theorem dX4_digest_85 : decode cX4_digest 85 = .ok (.bipush 7, 2) := by decide +kernel
theorem dX4_digest_87 : decode cX4_digest 87 = .ok (.iload_n 3, 1) := by decide +kernel
theorem dX4_digest_88 : decode cX4_digest 88 = .ok (.iadd, 1) := by decide +kernel
theorem dX4_digest_89 : decode cX4_digest 89 = .ok (.iaload, 1) := by decide +kernel
theorem dX4_digest_90 : decode cX4_digest 90 = .ok (.i2l, 1) := by decide +kernel
theorem dX4_digest_91 : decode cX4_digest 91 = .ok (.ladd, 1) := by decide +kernel
theorem dX4_digest_92 : decode cX4_digest 92 = .ok (.lstore_n 1, 1) := by decide +kernel
theorem dX4_digest_93 : decode cX4_digest 93 = .ok (.iinc 3 1, 3) := by decide +kernel
theorem dX4_digest_96 : decode cX4_digest 96 = .ok (.goto (-30), 3) := by decide +kernel
theorem dX4_digest_99 : decode cX4_digest 99 = .ok (.iconst 0, 1) := by decide +kernel
theorem dX4_digest_100 : decode cX4_digest 100 = .ok (.istore_n 3, 1) := by decide +kernel
theorem dX4_digest_101 : decode cX4_digest 101 = .ok (.iload_n 3, 1) := by decide +kernel
theorem dX4_digest_102 : decode cX4_digest 102 = .ok (.iconst 3, 1) := by decide +kernel
theorem dX4_digest_103 : decode cX4_digest 103 = .ok (.aload_n 0, 1) := by decide +kernel
theorem dX4_digest_104 : decode cX4_digest 104 = .ok (.getfield 30, 3) := by decide +kernel
theorem dX4_digest_107 : decode cX4_digest 107 = .ok (.imul, 1) := by decide +kernel
theorem dX4_digest_108 : decode cX4_digest 108 = .ok (.if_icmp .ge 26, 3) := by decide +kernel
theorem dX4_digest_111 : decode cX4_digest 111 = .ok (.lload_n 1, 1) := by decide +kernel
theorem dX4_digest_112 : decode cX4_digest 112 = .ok (.ldc2_w 113, 3) := by decide +kernel
theorem dX4_digest_115 : decode cX4_digest 115 = .ok (.lmul, 1) := by decide +kernel
theorem dX4_digest_116 : decode cX4_digest 116 = .ok (.aload_n 0, 1) := by decide +kernel
theorem dX4_digest_117 : decode cX4_digest 117 = .ok (.getfield 9, 3) := by decide +kernel
theorem dX4_digest_120 : decode cX4_digest 120 = .ok (.bipush 19, 2) := by decide +kernel
theorem dX4_digest_122 : decode cX4_digest 122 = .ok (.iload_n 3, 1) := by decide +kernel
theorem dX4_digest_123 : decode cX4_digest 123 = .ok (.iadd, 1) := by decide +kernel
theorem dX4_digest_124 : decode cX4_digest 124 = .ok (.iaload, 1) := by decide +kernel
theorem dX4_digest_125 : decode cX4_digest 125 = .ok (.i2l, 1) := by decide +kernel
theorem dX4_digest_126 : decode cX4_digest 126 = .ok (.ladd, 1) := by decide +kernel
theorem dX4_digest_127 : decode cX4_digest 127 = .ok (.lstore_n 1, 1) := by decide +kernel
theorem dX4_digest_128 : decode cX4_digest 128 = .ok (.iinc 3 1, 3) := by decide +kernel
theorem dX4_digest_131 : decode cX4_digest 131 = .ok (.goto (-30), 3) := by decide +kernel
theorem dX4_digest_134 : decode cX4_digest 134 = .ok (.lload_n 1, 1) := by decide +kernel
theorem dX4_digest_135 : decode cX4_digest 135 = .ok (.lreturn, 1) := by decide +kernel
end
section
set_option maxRecDepth 20000 in
theorem ggL_bring_X3_bring : GoodIn wsL_bring wsX3_bring := goodIn_ca (goodIn_ca (goodIn_r _ [7, 8, 9, 10, 11, 12, 13, 14, 15, 16, 17, 18, 19, 20, 21, 22, 23, 24, 25, 26, 27, 28] (by decide +kernel) (by decide +kernel)) (goodIn_sub (fun _ h => List.mem_cons_of_mem _ (List.mem_append_left _ (List.mem_append_right _ h))) (by decide +kernel))) (goodIn_sub (fun _ h => List.mem_cons_of_mem _ (List.mem_append_right _ h)) (by decide +kernel))
set_option maxRecDepth 20000 in
theorem gL_bring_X3_bring : GoodIn wsL_bring (wsV RL 7 RX3 yX3_bring wsX3_bring) := goodIn_app (goodIn_of _ (by decide +kernel)) ggL_bring_X3_bring
theorem dL_bring_0 : decode cL_bring 0 = .ok (.aload_n 3, 1) := by decide +kernel
theorem dL_bring_1 : decode cL_bring 1 = .ok (.iconst 0, 1) := by decide +kernel
theorem dL_bring_2 : decode cL_bring 2 = .ok (.aload_n 0, 1) := by decide +kernel
theorem dL_bring_3 : decode cL_bring 3 = .ok (.iload_n 1, 1) := by decide +kernel
theorem dL_bring_4 : decode cL_bring 4 = .ok (.iload_n 2, 1) := by decide +kernel
theorem dL_bring_5 : decode cL_bring 5 = .ok (.invokevirtual 7, 3) := by decide +kernel
theorem dL_bring_8 : decode cL_bring 8 = .ok (.i2l, 1) := by decide +kernel
theorem dL_bring_9 : decode cL_bring 9 = .ok (.lastore, 1) := by decide +kernel
theorem dL_bring_10 : decode cL_bring 10 = .ok (.goto 11, 3) := by decide +kernel
theorem dL_bring_13 : decode cL_bring 13 = .ok (.astore 4, 2) := by decide +kernel
theorem dL_bring_15 : decode cL_bring 15 = .ok (.iconst 1, 1) := by decide +kernel
theorem dL_bring_16 : decode cL_bring 16 = .ok (.ireturn, 1) := by decide +kernel
theorem dL_bring_17 : decode cL_bring 17 = .ok (.astore 4, 2) := by decide +kernel
theorem dL_bring_19 : decode cL_bring 19 = .ok (.iconst 2, 1) := by decide +kernel
theorem dL_bring_20 : decode cL_bring 20 = .ok (.ireturn, 1) := by decide +kernel
theorem dL_bring_21 : decode cL_bring 21 = .ok (.iconst 0, 1) := by decide +kernel
theorem dL_bring_22 : decode cL_bring 22 = .ok (.ireturn, 1) := by decide +kernel
set_option maxRecDepth 20000 in
theorem ggL_setHeat_X3_setHeat : GoodIn wsL_setHeat wsX3_setHeat := goodIn_ca (goodIn_ca (goodIn_r _ [7, 8, 9, 10, 11, 12, 13, 14, 15, 16, 17, 18, 19, 20, 21, 22, 23] (by decide +kernel) (by decide +kernel)) (goodIn_sub (fun _ h => List.mem_cons_of_mem _ (List.mem_append_left _ (List.mem_append_right _ h))) (by decide +kernel))) (goodIn_sub (fun _ h => List.mem_cons_of_mem _ (List.mem_append_right _ h)) (by decide +kernel))
set_option maxRecDepth 20000 in
theorem gL_setHeat_X3_setHeat : GoodIn wsL_setHeat (wsV RL 17 RX3 yX3_setHeat wsX3_setHeat) := goodIn_app (goodIn_of _ (by decide +kernel)) ggL_setHeat_X3_setHeat
theorem dL_setHeat_0 : decode cL_setHeat 0 = .ok (.aload_n 3, 1) := by decide +kernel
theorem dL_setHeat_1 : decode cL_setHeat 1 = .ok (.iconst 0, 1) := by decide +kernel
theorem dL_setHeat_2 : decode cL_setHeat 2 = .ok (.aload_n 0, 1) := by decide +kernel
theorem dL_setHeat_3 : decode cL_setHeat 3 = .ok (.iload_n 1, 1) := by decide +kernel
theorem dL_setHeat_4 : decode cL_setHeat 4 = .ok (.iload_n 2, 1) := by decide +kernel
theorem dL_setHeat_5 : decode cL_setHeat 5 = .ok (.invokevirtual 17, 3) := by decide +kernel
theorem dL_setHeat_8 : decode cL_setHeat 8 = .ok (.i2l, 1) := by decide +kernel
theorem dL_setHeat_9 : decode cL_setHeat 9 = .ok (.lastore, 1) := by decide +kernel
theorem dL_setHeat_10 : decode cL_setHeat 10 = .ok (.goto 11, 3) := by decide +kernel
theorem dL_setHeat_13 : decode cL_setHeat 13 = .ok (.astore 4, 2) := by decide +kernel
theorem dL_setHeat_15 : decode cL_setHeat 15 = .ok (.iconst 1, 1) := by decide +kernel
theorem dL_setHeat_16 : decode cL_setHeat 16 = .ok (.ireturn, 1) := by decide +kernel
theorem dL_setHeat_17 : decode cL_setHeat 17 = .ok (.astore 4, 2) := by decide +kernel
theorem dL_setHeat_19 : decode cL_setHeat 19 = .ok (.iconst 2, 1) := by decide +kernel
theorem dL_setHeat_20 : decode cL_setHeat 20 = .ok (.ireturn, 1) := by decide +kernel
theorem dL_setHeat_21 : decode cL_setHeat 21 = .ok (.iconst 0, 1) := by decide +kernel
theorem dL_setHeat_22 : decode cL_setHeat 22 = .ok (.ireturn, 1) := by decide +kernel
set_option maxRecDepth 20000 in
theorem ggL_churn_X3_churn : GoodIn wsL_churn wsX3_churn := goodIn_ca (goodIn_r _ [6, 7, 8, 9, 10, 11, 12, 13, 14, 15, 16, 17, 18, 19, 20] (by decide +kernel) (by decide +kernel)) (goodIn_sub (fun _ h => List.mem_cons_of_mem _ (List.mem_append_right _ h)) (by decide +kernel))
set_option maxRecDepth 20000 in
theorem gL_churn_X3_churn : GoodIn wsL_churn (wsV RL 20 RX3 yX3_churn wsX3_churn) := goodIn_app (goodIn_of _ (by decide +kernel)) ggL_churn_X3_churn
theorem dL_churn_0 : decode cL_churn 0 = .ok (.aload_n 1, 1) := by decide +kernel
theorem dL_churn_1 : decode cL_churn 1 = .ok (.iconst 0, 1) := by decide +kernel
theorem dL_churn_2 : decode cL_churn 2 = .ok (.aload_n 0, 1) := by decide +kernel
theorem dL_churn_3 : decode cL_churn 3 = .ok (.invokevirtual 20, 3) := by decide +kernel
theorem dL_churn_6 : decode cL_churn 6 = .ok (.i2l, 1) := by decide +kernel
theorem dL_churn_7 : decode cL_churn 7 = .ok (.lastore, 1) := by decide +kernel
theorem dL_churn_8 : decode cL_churn 8 = .ok (.goto 6, 3) := by decide +kernel
theorem dL_churn_11 : decode cL_churn 11 = .ok (.astore_n 2, 1) := by decide +kernel
theorem dL_churn_12 : decode cL_churn 12 = .ok (.iconst 1, 1) := by decide +kernel
theorem dL_churn_13 : decode cL_churn 13 = .ok (.ireturn, 1) := by decide +kernel
theorem dL_churn_14 : decode cL_churn 14 = .ok (.iconst 0, 1) := by decide +kernel
theorem dL_churn_15 : decode cL_churn 15 = .ok (.ireturn, 1) := by decide +kernel
set_option maxRecDepth 20000 in
theorem ggL_tub_X3_tub : GoodIn wsL_tub wsX3_tub := goodIn_ca (goodIn_r _ [6, 7, 8, 9, 10, 11, 12, 13, 14, 15, 16, 17, 18, 19, 20] (by decide +kernel) (by decide +kernel)) (goodIn_sub (fun _ h => List.mem_cons_of_mem _ (List.mem_append_right _ h)) (by decide +kernel))
set_option maxRecDepth 20000 in
theorem gL_tub_X3_tub : GoodIn wsL_tub (wsV RL 26 RX3 yX3_tub wsX3_tub) := goodIn_app (goodIn_of _ (by decide +kernel)) ggL_tub_X3_tub
theorem dL_tub_0 : decode cL_tub 0 = .ok (.aload_n 1, 1) := by decide +kernel
theorem dL_tub_1 : decode cL_tub 1 = .ok (.iconst 0, 1) := by decide +kernel
theorem dL_tub_2 : decode cL_tub 2 = .ok (.aload_n 0, 1) := by decide +kernel
theorem dL_tub_3 : decode cL_tub 3 = .ok (.invokevirtual 26, 3) := by decide +kernel
theorem dL_tub_6 : decode cL_tub 6 = .ok (.i2l, 1) := by decide +kernel
theorem dL_tub_7 : decode cL_tub 7 = .ok (.lastore, 1) := by decide +kernel
theorem dL_tub_8 : decode cL_tub 8 = .ok (.goto 6, 3) := by decide +kernel
theorem dL_tub_11 : decode cL_tub 11 = .ok (.astore_n 2, 1) := by decide +kernel
theorem dL_tub_12 : decode cL_tub 12 = .ok (.iconst 1, 1) := by decide +kernel
theorem dL_tub_13 : decode cL_tub 13 = .ok (.ireturn, 1) := by decide +kernel
theorem dL_tub_14 : decode cL_tub 14 = .ok (.iconst 0, 1) := by decide +kernel
theorem dL_tub_15 : decode cL_tub 15 = .ok (.ireturn, 1) := by decide +kernel
set_option maxRecDepth 20000 in
theorem ggL_pack_X3_pack : GoodIn wsL_pack wsX3_pack := goodIn_ca (goodIn_ca (goodIn_ca (goodIn_r _ [8, 9, 10, 11, 12, 13, 14, 7, 15, 16, 17, 18, 19, 20, 21, 22, 23, 24, 25, 26, 27, 28, 29, 30, 31, 32, 33, 34, 35, 36, 37, 38, 39, 40, 41, 42, 43, 44, 45, 46] (by decide +kernel) (by decide +kernel)) (goodIn_sub (fun _ h => List.mem_cons_of_mem _ (List.mem_append_left _ (List.mem_append_left _ (List.mem_append_right _ h)))) (by decide +kernel))) (goodIn_sub (fun _ h => List.mem_cons_of_mem _ (List.mem_append_left _ (List.mem_append_right _ h))) (by decide +kernel))) (goodIn_sub (fun _ h => List.mem_cons_of_mem _ (List.mem_append_right _ h)) (by decide +kernel))
set_option maxRecDepth 20000 in
theorem gL_pack_X3_pack : GoodIn wsL_pack (wsV RL 29 RX3 yX3_pack wsX3_pack) := goodIn_app (goodIn_of _ (by decide +kernel)) ggL_pack_X3_pack
theorem dL_pack_0 : decode cL_pack 0 = .ok (.aload 4, 2) := by decide +kernel
theorem dL_pack_2 : decode cL_pack 2 = .ok (.iconst 0, 1) := by decide +kernel
theorem dL_pack_3 : decode cL_pack 3 = .ok (.aload_n 0, 1) := by decide +kernel
theorem dL_pack_4 : decode cL_pack 4 = .ok (.iload_n 1, 1) := by decide +kernel
theorem dL_pack_5 : decode cL_pack 5 = .ok (.iload_n 2, 1) := by decide +kernel
theorem dL_pack_6 : decode cL_pack 6 = .ok (.iload_n 3, 1) := by decide +kernel
theorem dL_pack_7 : decode cL_pack 7 = .ok (.invokevirtual 29, 3) := by decide +kernel
theorem dL_pack_10 : decode cL_pack 10 = .ok (.i2l, 1) := by decide +kernel
theorem dL_pack_11 : decode cL_pack 11 = .ok (.lastore, 1) := by decide +kernel
theorem dL_pack_12 : decode cL_pack 12 = .ok (.goto 15, 3) := by decide +kernel
theorem dL_pack_15 : decode cL_pack 15 = .ok (.astore 5, 2) := by decide +kernel
theorem dL_pack_17 : decode cL_pack 17 = .ok (.iconst 1, 1) := by decide +kernel
theorem dL_pack_18 : decode cL_pack 18 = .ok (.ireturn, 1) := by decide +kernel
theorem dL_pack_19 : decode cL_pack 19 = .ok (.astore 5, 2) := by decide +kernel
theorem dL_pack_21 : decode cL_pack 21 = .ok (.iconst 2, 1) := by decide +kernel
theorem dL_pack_22 : decode cL_pack 22 = .ok (.ireturn, 1) := by decide +kernel
theorem dL_pack_23 : decode cL_pack 23 = .ok (.astore 5, 2) := by decide +kernel
theorem dL_pack_25 : decode cL_pack 25 = .ok (.iconst 3, 1) := by decide +kernel
theorem dL_pack_26 : decode cL_pack 26 = .ok (.ireturn, 1) := by decide +kernel
theorem dL_pack_27 : decode cL_pack 27 = .ok (.iconst 0, 1) := by decide +kernel
theorem dL_pack_28 : decode cL_pack 28 = .ok (.ireturn, 1) := by decide +kernel
set_option maxRecDepth 20000 in
theorem ggL_pour_X3_pour : GoodIn wsL_pour wsX3_pour := goodIn_ca (goodIn_ca (goodIn_ca (goodIn_r _ [8, 9, 10, 11, 12, 13, 14, 15, 16, 7, 17, 18, 19, 20, 21, 22, 23, 24, 25, 26, 27, 28, 29, 30, 31, 32, 33, 34, 35, 36, 37, 38, 39, 40] (by decide +kernel) (by decide +kernel)) (goodIn_sub (fun _ h => List.mem_cons_of_mem _ (List.mem_append_left _ (List.mem_append_left _ (List.mem_append_right _ h)))) (by decide +kernel))) (goodIn_sub (fun _ h => List.mem_cons_of_mem _ (List.mem_append_left _ (List.mem_append_right _ h))) (by decide +kernel))) (goodIn_sub (fun _ h => List.mem_cons_of_mem _ (List.mem_append_right _ h)) (by decide +kernel))
set_option maxRecDepth 20000 in
theorem gL_pour_X3_pour : GoodIn wsL_pour (wsV RL 33 RX3 yX3_pour wsX3_pour) := goodIn_app (goodIn_of _ (by decide +kernel)) ggL_pour_X3_pour
theorem dL_pour_0 : decode cL_pour 0 = .ok (.aload_n 3, 1) := by decide +kernel
theorem dL_pour_1 : decode cL_pour 1 = .ok (.iconst 0, 1) := by decide +kernel
theorem dL_pour_2 : decode cL_pour 2 = .ok (.aload_n 0, 1) := by decide +kernel
theorem dL_pour_3 : decode cL_pour 3 = .ok (.iload_n 1, 1) := by decide +kernel
theorem dL_pour_4 : decode cL_pour 4 = .ok (.iload_n 2, 1) := by decide +kernel
theorem dL_pour_5 : decode cL_pour 5 = .ok (.invokevirtual 33, 3) := by decide +kernel
theorem dL_pour_8 : decode cL_pour 8 = .ok (.i2l, 1) := by decide +kernel
theorem dL_pour_9 : decode cL_pour 9 = .ok (.lastore, 1) := by decide +kernel
theorem dL_pour_10 : decode cL_pour 10 = .ok (.goto 15, 3) := by decide +kernel
theorem dL_pour_13 : decode cL_pour 13 = .ok (.astore 4, 2) := by decide +kernel
theorem dL_pour_15 : decode cL_pour 15 = .ok (.iconst 1, 1) := by decide +kernel
theorem dL_pour_16 : decode cL_pour 16 = .ok (.ireturn, 1) := by decide +kernel
theorem dL_pour_17 : decode cL_pour 17 = .ok (.astore 4, 2) := by decide +kernel
theorem dL_pour_19 : decode cL_pour 19 = .ok (.iconst 2, 1) := by decide +kernel
theorem dL_pour_20 : decode cL_pour 20 = .ok (.ireturn, 1) := by decide +kernel
theorem dL_pour_21 : decode cL_pour 21 = .ok (.astore 4, 2) := by decide +kernel
theorem dL_pour_23 : decode cL_pour 23 = .ok (.iconst 3, 1) := by decide +kernel
theorem dL_pour_24 : decode cL_pour 24 = .ok (.ireturn, 1) := by decide +kernel
theorem dL_pour_25 : decode cL_pour 25 = .ok (.iconst 0, 1) := by decide +kernel
theorem dL_pour_26 : decode cL_pour 26 = .ok (.ireturn, 1) := by decide +kernel
set_option maxRecDepth 20000 in
theorem ggL_scoop_X3_scoop : GoodIn wsL_scoop wsX3_scoop := goodIn_ca (goodIn_ca (goodIn_r _ [7, 8, 9, 10, 11, 12, 6, 13, 14, 15, 16, 17, 18, 19, 20, 21, 22, 23, 24, 25, 26, 27, 28, 29, 30, 31, 32, 33, 34, 35, 36, 37, 38, 39, 40, 41, 42, 43, 44, 45, 46, 47, 48, 49, 50, 51] (by decide +kernel) (by decide +kernel)) (goodIn_sub (fun _ h => List.mem_cons_of_mem _ (List.mem_append_left _ (List.mem_append_right _ h))) (by decide +kernel))) (goodIn_sub (fun _ h => List.mem_cons_of_mem _ (List.mem_append_right _ h)) (by decide +kernel))
set_option maxRecDepth 20000 in
theorem gL_scoop_X3_scoop : GoodIn wsL_scoop (wsV RL 36 RX3 yX3_scoop wsX3_scoop) := goodIn_app (goodIn_of _ (by decide +kernel)) ggL_scoop_X3_scoop
theorem dL_scoop_0 : decode cL_scoop 0 = .ok (.aload_n 3, 1) := by decide +kernel
theorem dL_scoop_1 : decode cL_scoop 1 = .ok (.iconst 0, 1) := by decide +kernel
theorem dL_scoop_2 : decode cL_scoop 2 = .ok (.aload_n 0, 1) := by decide +kernel
theorem dL_scoop_3 : decode cL_scoop 3 = .ok (.iload_n 1, 1) := by decide +kernel
theorem dL_scoop_4 : decode cL_scoop 4 = .ok (.iload_n 2, 1) := by decide +kernel
theorem dL_scoop_5 : decode cL_scoop 5 = .ok (.invokevirtual 36, 3) := by decide +kernel
theorem dL_scoop_8 : decode cL_scoop 8 = .ok (.i2l, 1) := by decide +kernel
theorem dL_scoop_9 : decode cL_scoop 9 = .ok (.lastore, 1) := by decide +kernel
theorem dL_scoop_10 : decode cL_scoop 10 = .ok (.goto 11, 3) := by decide +kernel
theorem dL_scoop_13 : decode cL_scoop 13 = .ok (.astore 4, 2) := by decide +kernel
theorem dL_scoop_15 : decode cL_scoop 15 = .ok (.iconst 1, 1) := by decide +kernel
theorem dL_scoop_16 : decode cL_scoop 16 = .ok (.ireturn, 1) := by decide +kernel
theorem dL_scoop_17 : decode cL_scoop 17 = .ok (.astore 4, 2) := by decide +kernel
theorem dL_scoop_19 : decode cL_scoop 19 = .ok (.iconst 2, 1) := by decide +kernel
theorem dL_scoop_20 : decode cL_scoop 20 = .ok (.ireturn, 1) := by decide +kernel
theorem dL_scoop_21 : decode cL_scoop 21 = .ok (.iconst 0, 1) := by decide +kernel
theorem dL_scoop_22 : decode cL_scoop 22 = .ok (.ireturn, 1) := by decide +kernel
set_option maxRecDepth 20000 in
theorem ggL_told_X3_told : GoodIn wsL_told wsX3_told := goodIn_ca (goodIn_r _ [6, 7, 8, 9, 10, 11, 5, 12, 13, 14, 15, 16, 17, 18, 19, 20, 21, 22, 23, 24, 25, 26, 27, 28, 29, 30, 31, 32, 33, 34, 35] (by decide +kernel) (by decide +kernel)) (goodIn_sub (fun _ h => List.mem_cons_of_mem _ (List.mem_append_right _ h)) (by decide +kernel))
set_option maxRecDepth 20000 in
theorem gL_told_X3_told : GoodIn wsL_told (wsV RL 39 RX3 yX3_told wsX3_told) := goodIn_app (goodIn_of _ (by decide +kernel)) ggL_told_X3_told
theorem dL_told_0 : decode cL_told 0 = .ok (.aload_n 3, 1) := by decide +kernel
theorem dL_told_1 : decode cL_told 1 = .ok (.iconst 0, 1) := by decide +kernel
theorem dL_told_2 : decode cL_told 2 = .ok (.aload_n 0, 1) := by decide +kernel
theorem dL_told_3 : decode cL_told 3 = .ok (.iload_n 1, 1) := by decide +kernel
theorem dL_told_4 : decode cL_told 4 = .ok (.iload_n 2, 1) := by decide +kernel
theorem dL_told_5 : decode cL_told 5 = .ok (.invokevirtual 39, 3) := by decide +kernel
theorem dL_told_8 : decode cL_told 8 = .ok (.i2l, 1) := by decide +kernel
theorem dL_told_9 : decode cL_told 9 = .ok (.lastore, 1) := by decide +kernel
theorem dL_told_10 : decode cL_told 10 = .ok (.goto 7, 3) := by decide +kernel
theorem dL_told_13 : decode cL_told 13 = .ok (.astore 4, 2) := by decide +kernel
theorem dL_told_15 : decode cL_told 15 = .ok (.iconst 1, 1) := by decide +kernel
theorem dL_told_16 : decode cL_told 16 = .ok (.ireturn, 1) := by decide +kernel
theorem dL_told_17 : decode cL_told 17 = .ok (.iconst 0, 1) := by decide +kernel
theorem dL_told_18 : decode cL_told 18 = .ok (.ireturn, 1) := by decide +kernel
set_option maxRecDepth 20000 in
theorem ggL_about_X3_about : GoodIn wsL_about wsX3_about := goodIn_ca (goodIn_r _ [6, 7, 8, 9, 10, 11, 5, 12, 13, 14, 15, 16, 17, 18, 19, 20, 21, 22, 23, 24, 25, 26, 27, 28, 29, 30, 31, 32, 33, 34, 35] (by decide +kernel) (by decide +kernel)) (goodIn_sub (fun _ h => List.mem_cons_of_mem _ (List.mem_append_right _ h)) (by decide +kernel))
set_option maxRecDepth 20000 in
theorem gL_about_X3_about : GoodIn wsL_about (wsV RL 42 RX3 yX3_about wsX3_about) := goodIn_app (goodIn_of _ (by decide +kernel)) ggL_about_X3_about
theorem dL_about_0 : decode cL_about 0 = .ok (.aload_n 3, 1) := by decide +kernel
theorem dL_about_1 : decode cL_about 1 = .ok (.iconst 0, 1) := by decide +kernel
theorem dL_about_2 : decode cL_about 2 = .ok (.aload_n 0, 1) := by decide +kernel
theorem dL_about_3 : decode cL_about 3 = .ok (.iload_n 1, 1) := by decide +kernel
theorem dL_about_4 : decode cL_about 4 = .ok (.iload_n 2, 1) := by decide +kernel
theorem dL_about_5 : decode cL_about 5 = .ok (.invokevirtual 42, 3) := by decide +kernel
theorem dL_about_8 : decode cL_about 8 = .ok (.i2l, 1) := by decide +kernel
theorem dL_about_9 : decode cL_about 9 = .ok (.lastore, 1) := by decide +kernel
theorem dL_about_10 : decode cL_about 10 = .ok (.goto 7, 3) := by decide +kernel
theorem dL_about_13 : decode cL_about 13 = .ok (.astore 4, 2) := by decide +kernel
theorem dL_about_15 : decode cL_about 15 = .ok (.iconst 1, 1) := by decide +kernel
theorem dL_about_16 : decode cL_about 16 = .ok (.ireturn, 1) := by decide +kernel
theorem dL_about_17 : decode cL_about 17 = .ok (.iconst 0, 1) := by decide +kernel
theorem dL_about_18 : decode cL_about 18 = .ok (.ireturn, 1) := by decide +kernel
set_option maxRecDepth 20000 in
theorem ggL_count_X3_count : GoodIn wsL_count wsX3_count := goodIn_ca (goodIn_r _ [6, 7, 8, 9, 10, 11, 12, 13, 14, 15, 16, 17, 18, 19, 20, 21, 22, 23, 24, 25, 26, 27, 28, 29, 30, 31, 32, 33, 34, 35, 36, 37, 38, 39, 40, 41, 42, 43, 44, 45, 46, 47, 48, 49, 50, 51] (by decide +kernel) (by decide +kernel)) (goodIn_sub (fun _ h => List.mem_cons_of_mem _ (List.mem_append_right _ h)) (by decide +kernel))
set_option maxRecDepth 20000 in
theorem gL_count_X3_count : GoodIn wsL_count (wsV RL 45 RX3 yX3_count wsX3_count) := goodIn_app (goodIn_of _ (by decide +kernel)) ggL_count_X3_count
theorem dL_count_0 : decode cL_count 0 = .ok (.aload_n 2, 1) := by decide +kernel
theorem dL_count_1 : decode cL_count 1 = .ok (.iconst 0, 1) := by decide +kernel
theorem dL_count_2 : decode cL_count 2 = .ok (.aload_n 0, 1) := by decide +kernel
theorem dL_count_3 : decode cL_count 3 = .ok (.iload_n 1, 1) := by decide +kernel
theorem dL_count_4 : decode cL_count 4 = .ok (.invokevirtual 45, 3) := by decide +kernel
theorem dL_count_7 : decode cL_count 7 = .ok (.i2l, 1) := by decide +kernel
theorem dL_count_8 : decode cL_count 8 = .ok (.lastore, 1) := by decide +kernel
theorem dL_count_9 : decode cL_count 9 = .ok (.goto 6, 3) := by decide +kernel
theorem dL_count_12 : decode cL_count 12 = .ok (.astore_n 3, 1) := by decide +kernel
theorem dL_count_13 : decode cL_count 13 = .ok (.iconst 1, 1) := by decide +kernel
theorem dL_count_14 : decode cL_count 14 = .ok (.ireturn, 1) := by decide +kernel
theorem dL_count_15 : decode cL_count 15 = .ok (.iconst 0, 1) := by decide +kernel
theorem dL_count_16 : decode cL_count 16 = .ok (.ireturn, 1) := by decide +kernel
set_option maxRecDepth 20000 in
theorem ggL_pass_X3_pass : GoodIn wsL_pass wsX3_pass := goodIn_ca (goodIn_r _ [6, 7, 8, 9, 5, 10, 11, 12, 13, 14, 15, 16, 17, 18, 19, 20, 21, 22, 23, 24, 25, 26, 27, 28, 29, 30, 31, 32, 33, 34, 35, 36, 37, 38, 39, 40, 41, 42, 43, 44, 45, 46, 47, 48, 49, 50, 51, 52, 53, 54, 55, 56, 57, 58, 59, 60, 61, 62, 63, 64, 65, 66, 67, 68, 69, 70, 71, 72, 73, 74, 75, 76, 77, 78, 79, 80, 81, 82, 83, 84, 85, 86, 87, 88, 89, 90, 91, 92, 93, 94, 95, 96, 97, 98, 99, 100, 101, 102, 103, 104, 105, 106] (by decide +kernel) (by decide +kernel)) (goodIn_sub (fun _ h => List.mem_cons_of_mem _ (List.mem_append_right _ h)) (by decide +kernel))
set_option maxRecDepth 20000 in
theorem gL_pass_X3_pass : GoodIn wsL_pass (wsV RL 49 RX3 yX3_pass wsX3_pass) := goodIn_app (goodIn_of _ (by decide +kernel)) ggL_pass_X3_pass
theorem dL_pass_0 : decode cL_pass 0 = .ok (.aload_n 2, 1) := by decide +kernel
theorem dL_pass_1 : decode cL_pass 1 = .ok (.iconst 0, 1) := by decide +kernel
theorem dL_pass_2 : decode cL_pass 2 = .ok (.aload_n 0, 1) := by decide +kernel
theorem dL_pass_3 : decode cL_pass 3 = .ok (.iload_n 1, 1) := by decide +kernel
theorem dL_pass_4 : decode cL_pass 4 = .ok (.invokevirtual 49, 3) := by decide +kernel
theorem dL_pass_7 : decode cL_pass 7 = .ok (.i2l, 1) := by decide +kernel
theorem dL_pass_8 : decode cL_pass 8 = .ok (.lastore, 1) := by decide +kernel
theorem dL_pass_9 : decode cL_pass 9 = .ok (.goto 6, 3) := by decide +kernel
theorem dL_pass_12 : decode cL_pass 12 = .ok (.astore_n 3, 1) := by decide +kernel
theorem dL_pass_13 : decode cL_pass 13 = .ok (.iconst 1, 1) := by decide +kernel
theorem dL_pass_14 : decode cL_pass 14 = .ok (.ireturn, 1) := by decide +kernel
theorem dL_pass_15 : decode cL_pass 15 = .ok (.iconst 0, 1) := by decide +kernel
theorem dL_pass_16 : decode cL_pass 16 = .ok (.ireturn, 1) := by decide +kernel
set_option maxRecDepth 20000 in
theorem ggL_done_X3_done : GoodIn wsL_done wsX3_done := goodIn_ca (goodIn_r _ [6, 7, 8, 9, 10, 5, 11, 12, 13, 14, 15, 16, 17, 18, 19, 20, 21, 22, 23, 24, 25, 26, 27, 28, 29, 30, 31, 32, 33, 34, 35, 36, 37, 38, 39, 40, 41, 42, 43, 44, 45, 46, 47, 48, 49, 50, 51, 52, 53] (by decide +kernel) (by decide +kernel)) (goodIn_sub (fun _ h => List.mem_cons_of_mem _ (List.mem_append_right _ h)) (by decide +kernel))
set_option maxRecDepth 20000 in
theorem gL_done_X3_done : GoodIn wsL_done (wsV RL 52 RX3 yX3_done wsX3_done) := goodIn_app (goodIn_of _ (by decide +kernel)) ggL_done_X3_done
theorem dL_done_0 : decode cL_done 0 = .ok (.aload_n 2, 1) := by decide +kernel
theorem dL_done_1 : decode cL_done 1 = .ok (.iconst 0, 1) := by decide +kernel
theorem dL_done_2 : decode cL_done 2 = .ok (.aload_n 0, 1) := by decide +kernel
theorem dL_done_3 : decode cL_done 3 = .ok (.iload_n 1, 1) := by decide +kernel
theorem dL_done_4 : decode cL_done 4 = .ok (.invokevirtual 52, 3) := by decide +kernel
theorem dL_done_7 : decode cL_done 7 = .ok (.i2l, 1) := by decide +kernel
theorem dL_done_8 : decode cL_done 8 = .ok (.lastore, 1) := by decide +kernel
theorem dL_done_9 : decode cL_done 9 = .ok (.goto 6, 3) := by decide +kernel
theorem dL_done_12 : decode cL_done 12 = .ok (.astore_n 3, 1) := by decide +kernel
theorem dL_done_13 : decode cL_done 13 = .ok (.iconst 1, 1) := by decide +kernel
theorem dL_done_14 : decode cL_done 14 = .ok (.ireturn, 1) := by decide +kernel
theorem dL_done_15 : decode cL_done 15 = .ok (.iconst 0, 1) := by decide +kernel
theorem dL_done_16 : decode cL_done 16 = .ok (.ireturn, 1) := by decide +kernel
set_option maxRecDepth 20000 in
theorem ggL_foresee_X3_foresee : GoodIn wsL_foresee wsX3_foresee := goodIn_ca (goodIn_ca (goodIn_r _ [7, 8, 9, 10, 11, 12, 13, 6, 14, 15, 16, 17, 18, 19, 20, 21, 22, 23, 24, 25, 26, 27, 28, 29, 30, 31, 32, 33, 34, 35, 36, 37, 38, 39, 40, 41, 42, 43, 44, 45, 46, 47, 48, 49, 50, 51, 52, 53, 54, 55, 56, 57, 58, 59, 60, 61, 62, 63, 64, 65, 66, 67, 68, 69, 70, 71, 72, 73, 74, 75, 76, 77, 78, 79, 80, 81, 82, 83, 84, 85, 86, 87, 88, 89, 90, 91, 92, 93, 94, 95, 96, 97, 98, 99, 100, 101, 102, 103, 104, 105, 106, 107, 108, 109, 110, 111, 112, 113, 114, 115, 116, 117, 118, 119, 120, 121, 122, 123, 124, 125, 126, 127, 128, 129, 130, 131, 132, 133, 134, 135, 136, 137, 138] (by decide +kernel) (by decide +kernel)) (goodIn_sub (fun _ h => List.mem_cons_of_mem _ (List.mem_append_left _ (List.mem_append_right _ h))) (by decide +kernel))) (goodIn_sub (fun _ h => List.mem_cons_of_mem _ (List.mem_append_right _ h)) (by decide +kernel))
set_option maxRecDepth 20000 in
theorem gL_foresee_X3_foresee : GoodIn wsL_foresee (wsV RL 55 RX3 yX3_foresee wsX3_foresee) := goodIn_app (goodIn_of _ (by decide +kernel)) ggL_foresee_X3_foresee
theorem dL_foresee_0 : decode cL_foresee 0 = .ok (.aload_n 3, 1) := by decide +kernel
theorem dL_foresee_1 : decode cL_foresee 1 = .ok (.iconst 0, 1) := by decide +kernel
theorem dL_foresee_2 : decode cL_foresee 2 = .ok (.aload_n 0, 1) := by decide +kernel
theorem dL_foresee_3 : decode cL_foresee 3 = .ok (.iload_n 1, 1) := by decide +kernel
theorem dL_foresee_4 : decode cL_foresee 4 = .ok (.iload_n 2, 1) := by decide +kernel
theorem dL_foresee_5 : decode cL_foresee 5 = .ok (.invokevirtual 55, 3) := by decide +kernel
theorem dL_foresee_8 : decode cL_foresee 8 = .ok (.i2l, 1) := by decide +kernel
theorem dL_foresee_9 : decode cL_foresee 9 = .ok (.lastore, 1) := by decide +kernel
theorem dL_foresee_10 : decode cL_foresee 10 = .ok (.goto 11, 3) := by decide +kernel
theorem dL_foresee_13 : decode cL_foresee 13 = .ok (.astore 4, 2) := by decide +kernel
theorem dL_foresee_15 : decode cL_foresee 15 = .ok (.iconst 1, 1) := by decide +kernel
theorem dL_foresee_16 : decode cL_foresee 16 = .ok (.ireturn, 1) := by decide +kernel
theorem dL_foresee_17 : decode cL_foresee 17 = .ok (.astore 4, 2) := by decide +kernel
theorem dL_foresee_19 : decode cL_foresee 19 = .ok (.iconst 2, 1) := by decide +kernel
theorem dL_foresee_20 : decode cL_foresee 20 = .ok (.ireturn, 1) := by decide +kernel
theorem dL_foresee_21 : decode cL_foresee 21 = .ok (.iconst 0, 1) := by decide +kernel
theorem dL_foresee_22 : decode cL_foresee 22 = .ok (.ireturn, 1) := by decide +kernel
set_option maxRecDepth 20000 in
theorem ggL_salt_X3_salt : GoodIn wsL_salt wsX3_salt := goodIn_ca (goodIn_ca (goodIn_r _ [7, 8, 9, 10, 11, 12, 13, 14, 15, 16, 17, 6, 18, 19, 20, 21, 22, 23, 24, 25, 26, 27, 28, 29, 30, 31, 32, 33, 34, 35, 36, 37, 38, 39, 40, 41, 42, 43] (by decide +kernel) (by decide +kernel)) (goodIn_sub (fun _ h => List.mem_cons_of_mem _ (List.mem_append_left _ (List.mem_append_right _ h))) (by decide +kernel))) (goodIn_sub (fun _ h => List.mem_cons_of_mem _ (List.mem_append_right _ h)) (by decide +kernel))
set_option maxRecDepth 20000 in
theorem gL_salt_X3_salt : GoodIn wsL_salt (wsV RL 58 RX3 yX3_salt wsX3_salt) := goodIn_app (goodIn_of _ (by decide +kernel)) ggL_salt_X3_salt
theorem dL_salt_0 : decode cL_salt 0 = .ok (.aload_n 3, 1) := by decide +kernel
theorem dL_salt_1 : decode cL_salt 1 = .ok (.iconst 0, 1) := by decide +kernel
theorem dL_salt_2 : decode cL_salt 2 = .ok (.aload_n 0, 1) := by decide +kernel
theorem dL_salt_3 : decode cL_salt 3 = .ok (.iload_n 1, 1) := by decide +kernel
theorem dL_salt_4 : decode cL_salt 4 = .ok (.iload_n 2, 1) := by decide +kernel
theorem dL_salt_5 : decode cL_salt 5 = .ok (.invokevirtual 58, 3) := by decide +kernel
theorem dL_salt_8 : decode cL_salt 8 = .ok (.i2l, 1) := by decide +kernel
theorem dL_salt_9 : decode cL_salt 9 = .ok (.lastore, 1) := by decide +kernel
theorem dL_salt_10 : decode cL_salt 10 = .ok (.goto 11, 3) := by decide +kernel
theorem dL_salt_13 : decode cL_salt 13 = .ok (.astore 4, 2) := by decide +kernel
theorem dL_salt_15 : decode cL_salt 15 = .ok (.iconst 1, 1) := by decide +kernel
theorem dL_salt_16 : decode cL_salt 16 = .ok (.ireturn, 1) := by decide +kernel
theorem dL_salt_17 : decode cL_salt 17 = .ok (.astore 4, 2) := by decide +kernel
theorem dL_salt_19 : decode cL_salt 19 = .ok (.iconst 2, 1) := by decide +kernel
theorem dL_salt_20 : decode cL_salt 20 = .ok (.ireturn, 1) := by decide +kernel
theorem dL_salt_21 : decode cL_salt 21 = .ok (.iconst 0, 1) := by decide +kernel
theorem dL_salt_22 : decode cL_salt 22 = .ok (.ireturn, 1) := by decide +kernel
set_option maxRecDepth 20000 in
theorem ggL_law_X3_init : GoodIn wsL_law wsX3_init := goodIn_r _ [9, 10, 11, 12, 13, 14, 15, 16, 17, 18, 19, 20, 21, 22, 23, 24, 25, 26, 27, 28, 29, 30, 31, 32, 33, 34, 35, 36, 37, 38, 39, 40, 41, 42, 492, 493, 494, 495, 496, 497, 498, 499, 500, 484, 485, 501, 502, 503, 504, 505, 506] (by decide +kernel) (by decide +kernel)
set_option maxRecDepth 20000 in
theorem gL_law_X3_init : GoodIn wsL_law (wsX3_init) := ggL_law_X3_init
set_option maxRecDepth 20000 in
theorem ggL_law_X4_init : GoodIn wsL_law wsX4_init := goodIn_r _ [45, 46, 11, 12, 22, 47, 48, 49, 486, 487, 488, 489, 490, 491] (by decide +kernel) (by decide +kernel)
set_option maxRecDepth 20000 in
theorem gL_law_X4_init : GoodIn wsL_law (wsX4_init) := ggL_law_X4_init
set_option maxRecDepth 20000 in
theorem ggL_law_L_bring : GoodIn wsL_law wsL_bring := goodIn_ca (goodIn_ca (goodIn_r _ [53, 54, 55, 56, 57, 58, 2, 59, 60, 61, 62, 63, 16, 64, 65, 66, 67, 68, 484, 485, 492, 493, 494, 495, 496, 497, 498, 499, 500] (by decide +kernel) (by decide +kernel)) (goodIn_sub (fun _ h => List.mem_append_left _ (List.mem_append_left _ (List.mem_append_right _ h))) (by decide +kernel))) (goodIn_sub (fun _ h => List.mem_append_left _ (List.mem_append_right _ h)) (by decide +kernel))
set_option maxRecDepth 20000 in
theorem gL_law_L_bring : GoodIn wsL_law (va_wsS RL 65 yL_bring wsL_bring) := goodIn_app (goodIn_of _ (by decide +kernel)) ggL_law_L_bring
set_option maxRecDepth 20000 in
theorem ggL_law_X4_bring : GoodIn wsL_law wsX4_bring := goodIn_r _ [72, 73, 47, 74, 75, 66, 67, 68, 76, 77, 5, 78, 79, 80, 81, 82, 486, 487, 488, 489, 490, 491] (by decide +kernel) (by decide +kernel)
set_option maxRecDepth 20000 in
theorem gL_law_X4_bring : GoodIn wsL_law (wsV RL 70 RX4 yX4_bring wsX4_bring) := goodIn_app (goodIn_of _ (by decide +kernel)) ggL_law_X4_bring
set_option maxRecDepth 20000 in
theorem ggL_law_X4_thrown : GoodIn wsL_law wsX4_thrown := goodIn_r _ [86, 73, 486, 487, 488, 489, 490, 491] (by decide +kernel) (by decide +kernel)
set_option maxRecDepth 20000 in
theorem gL_law_X4_thrown : GoodIn wsL_law (wsV RL 71 RX4 yX4_thrown wsX4_thrown) := goodIn_app (goodIn_of _ (by decide +kernel)) ggL_law_X4_thrown
set_option maxRecDepth 20000 in
theorem ggL_law_L_setHeat : GoodIn wsL_law wsL_setHeat := goodIn_ca (goodIn_ca (goodIn_r _ [89, 54, 55, 90, 91, 92, 2, 93, 60, 61, 62, 63, 16, 484, 485, 492, 493, 494, 495, 496, 497, 498, 499, 500] (by decide +kernel) (by decide +kernel)) (goodIn_sub (fun _ h => List.mem_append_left _ (List.mem_append_left _ (List.mem_append_right _ h))) (by decide +kernel))) (goodIn_sub (fun _ h => List.mem_append_left _ (List.mem_append_right _ h)) (by decide +kernel))
set_option maxRecDepth 20000 in
theorem gL_law_L_setHeat : GoodIn wsL_law (va_wsS RL 74 yL_setHeat wsL_setHeat) := goodIn_app (goodIn_of _ (by decide +kernel)) ggL_law_L_setHeat
set_option maxRecDepth 20000 in
theorem ggL_law_X4_setHeat : GoodIn wsL_law wsX4_setHeat := goodIn_r _ [97, 73, 49, 76, 77, 5, 78, 79, 80, 81, 82, 486, 487, 488, 489, 490, 491] (by decide +kernel) (by decide +kernel)
set_option maxRecDepth 20000 in
theorem gL_law_X4_setHeat : GoodIn wsL_law (wsV RL 76 RX4 yX4_setHeat wsX4_setHeat) := goodIn_app (goodIn_of _ (by decide +kernel)) ggL_law_X4_setHeat
set_option maxRecDepth 20000 in
theorem ggL_law_L_churn : GoodIn wsL_law wsL_churn := goodIn_ca (goodIn_r _ [100, 101, 102, 103, 104, 2, 105, 106, 107, 16, 484, 485, 492, 493, 494, 495, 496, 497, 498, 499, 500] (by decide +kernel) (by decide +kernel)) (goodIn_sub (fun _ h => List.mem_append_right _ h) (by decide +kernel))
set_option maxRecDepth 20000 in
theorem gL_law_L_churn : GoodIn wsL_law (va_wsS RL 77 yL_churn wsL_churn) := goodIn_app (goodIn_of _ (by decide +kernel)) ggL_law_L_churn
set_option maxRecDepth 20000 in
theorem ggL_law_X4_churn : GoodIn wsL_law wsX4_churn := goodIn_r _ [111, 73, 112, 79, 80, 81, 5, 82, 486, 487, 488, 489, 490, 491] (by decide +kernel) (by decide +kernel)
set_option maxRecDepth 20000 in
theorem gL_law_X4_churn : GoodIn wsL_law (wsV RL 80 RX4 yX4_churn wsX4_churn) := goodIn_app (goodIn_of _ (by decide +kernel)) ggL_law_X4_churn
set_option maxRecDepth 20000 in
theorem ggL_law_L_tub : GoodIn wsL_law wsL_tub := goodIn_ca (goodIn_r _ [115, 101, 116, 117, 118, 2, 119, 106, 107, 16, 484, 485, 492, 493, 494, 495, 496, 497, 498, 499, 500] (by decide +kernel) (by decide +kernel)) (goodIn_sub (fun _ h => List.mem_append_right _ h) (by decide +kernel))
set_option maxRecDepth 20000 in
theorem gL_law_L_tub : GoodIn wsL_law (va_wsS RL 81 yL_tub wsL_tub) := goodIn_app (goodIn_of _ (by decide +kernel)) ggL_law_L_tub
set_option maxRecDepth 20000 in
theorem ggL_law_X4_tub : GoodIn wsL_law wsX4_tub := goodIn_r _ [123, 73, 124, 79, 80, 81, 5, 82, 486, 487, 488, 489, 490, 491] (by decide +kernel) (by decide +kernel)
set_option maxRecDepth 20000 in
theorem gL_law_X4_tub : GoodIn wsL_law (wsV RL 83 RX4 yX4_tub wsX4_tub) := goodIn_app (goodIn_of _ (by decide +kernel)) ggL_law_X4_tub
set_option maxRecDepth 20000 in
theorem ggL_law_L_pack : GoodIn wsL_law wsL_pack := goodIn_ca (goodIn_ca (goodIn_ca (goodIn_r _ [127, 54, 55, 101, 128, 129, 130, 2, 131, 106, 107, 16, 132, 133, 134, 135, 60, 61, 136, 137, 138, 62, 63, 139, 140, 141, 65, 66, 67, 68, 142, 143, 144, 484, 485, 492, 493, 494, 495, 496, 497, 498, 499, 500, 501, 502, 503] (by decide +kernel) (by decide +kernel)) (goodIn_sub (fun _ h => List.mem_append_right _ h) (by decide +kernel))) (goodIn_sub (fun _ h => List.mem_append_left _ (List.mem_append_left _ (List.mem_append_right _ h))) (by decide +kernel))) (goodIn_sub (fun _ h => List.mem_append_left _ (List.mem_append_right _ h)) (by decide +kernel))
set_option maxRecDepth 20000 in
theorem gL_law_L_pack : GoodIn wsL_law (va_wsS RL 84 yL_pack wsL_pack) := goodIn_app (goodIn_of _ (by decide +kernel)) ggL_law_L_pack
set_option maxRecDepth 20000 in
theorem ggL_law_X4_pack : GoodIn wsL_law wsX4_pack := goodIn_r _ [148, 73, 47, 149, 150, 151, 5, 152, 112, 76, 77, 78, 79, 80, 81, 82, 153, 154, 155, 156, 75, 66, 67, 68, 157, 158, 159, 160, 161, 162, 163, 164, 486, 487, 488, 489, 490, 491] (by decide +kernel) (by decide +kernel)
set_option maxRecDepth 20000 in
theorem gL_law_X4_pack : GoodIn wsL_law (wsV RL 87 RX4 yX4_pack wsX4_pack) := goodIn_app (goodIn_of _ (by decide +kernel)) ggL_law_X4_pack
set_option maxRecDepth 20000 in
theorem ggL_law_L_pour : GoodIn wsL_law wsL_pour := goodIn_ca (goodIn_ca (goodIn_ca (goodIn_r _ [167, 54, 55, 101, 168, 169, 170, 2, 171, 62, 63, 106, 107, 16, 132, 133, 134, 135, 60, 61, 172, 173, 174, 30, 175, 176, 177, 484, 485, 492, 493, 494, 495, 496, 497, 498, 499, 500, 501, 502, 503] (by decide +kernel) (by decide +kernel)) (goodIn_sub (fun _ h => List.mem_append_left _ (List.mem_append_right _ h)) (by decide +kernel))) (goodIn_sub (fun _ h => List.mem_append_right _ h) (by decide +kernel))) (goodIn_sub (fun _ h => List.mem_append_left _ (List.mem_append_left _ (List.mem_append_right _ h))) (by decide +kernel))
set_option maxRecDepth 20000 in
theorem gL_law_L_pour : GoodIn wsL_law (va_wsS RL 88 yL_pour wsL_pour) := goodIn_app (goodIn_of _ (by decide +kernel)) ggL_law_L_pour
set_option maxRecDepth 20000 in
theorem ggL_law_X4_pour : GoodIn wsL_law wsX4_pour := goodIn_r _ [181, 73, 47, 149, 150, 151, 5, 152, 112, 76, 77, 78, 79, 80, 81, 82, 157, 158, 159, 160, 161, 162, 163, 164, 486, 487, 488, 489, 490, 491] (by decide +kernel) (by decide +kernel)
set_option maxRecDepth 20000 in
theorem gL_law_X4_pour : GoodIn wsL_law (wsV RL 90 RX4 yX4_pour wsX4_pour) := goodIn_app (goodIn_of _ (by decide +kernel)) ggL_law_X4_pour
set_option maxRecDepth 20000 in
theorem ggL_law_L_scoop : GoodIn wsL_law wsL_scoop := goodIn_ca (goodIn_ca (goodIn_r _ [184, 54, 101, 185, 186, 187, 2, 188, 106, 107, 132, 133, 134, 135, 60, 61, 16, 189, 190, 191, 192, 193, 194, 195, 32, 196, 197, 198, 66, 67, 68, 199, 200, 201, 202, 501, 502, 503, 504, 505, 506, 484, 485, 492, 493, 494, 495, 496, 497, 498, 499, 500] (by decide +kernel) (by decide +kernel)) (goodIn_sub (fun _ h => List.mem_append_right _ h) (by decide +kernel))) (goodIn_sub (fun _ h => List.mem_append_left _ (List.mem_append_left _ (List.mem_append_right _ h))) (by decide +kernel))
set_option maxRecDepth 20000 in
theorem gL_law_L_scoop : GoodIn wsL_law (va_wsS RL 91 yL_scoop wsL_scoop) := goodIn_app (goodIn_of _ (by decide +kernel)) ggL_law_L_scoop
set_option maxRecDepth 20000 in
theorem ggL_law_X4_scoop : GoodIn wsL_law wsX4_scoop := goodIn_r _ [206, 73, 75, 66, 67, 68, 207, 201, 202, 149, 150, 151, 5, 152, 112, 76, 77, 78, 208, 209, 210, 211, 124, 79, 80, 81, 82, 157, 158, 159, 160, 47, 212, 213, 214, 215, 216, 217, 218, 219, 161, 162, 163, 164, 486, 487, 488, 489, 490, 491] (by decide +kernel) (by decide +kernel)
set_option maxRecDepth 20000 in
theorem gL_law_X4_scoop : GoodIn wsL_law (wsV RL 93 RX4 yX4_scoop wsX4_scoop) := goodIn_app (goodIn_of _ (by decide +kernel)) ggL_law_X4_scoop
set_option maxRecDepth 20000 in
theorem ggL_law_L_told : GoodIn wsL_law wsL_told := goodIn_ca (goodIn_r _ [222, 54, 223, 224, 225, 2, 226, 60, 61, 132, 133, 134, 135, 16, 227, 228, 229, 30, 230, 231, 176, 177, 484, 485, 492, 493, 494, 495, 496, 497, 498, 499, 500, 501, 502, 503] (by decide +kernel) (by decide +kernel)) (goodIn_sub (fun _ h => List.mem_append_left _ (List.mem_append_left _ (List.mem_append_right _ h))) (by decide +kernel))
set_option maxRecDepth 20000 in
theorem gL_law_L_told : GoodIn wsL_law (va_wsS RL 94 yL_told wsL_told) := goodIn_app (goodIn_of _ (by decide +kernel)) ggL_law_L_told
set_option maxRecDepth 20000 in
theorem ggL_law_X4_told : GoodIn wsL_law wsX4_told := goodIn_r _ [235, 73, 149, 150, 151, 5, 152, 112, 76, 77, 78, 157, 158, 159, 160, 47, 79, 80, 81, 82, 486, 487, 488, 489, 490, 491] (by decide +kernel) (by decide +kernel)
set_option maxRecDepth 20000 in
theorem gL_law_X4_told : GoodIn wsL_law (wsV RL 96 RX4 yX4_told wsX4_told) := goodIn_app (goodIn_of _ (by decide +kernel)) ggL_law_X4_told
set_option maxRecDepth 20000 in
theorem ggL_law_L_about : GoodIn wsL_law wsL_about := goodIn_ca (goodIn_r _ [238, 54, 239, 240, 241, 2, 242, 60, 61, 189, 190, 191, 192, 16, 243, 244, 245, 32, 246, 197, 199, 247, 484, 485, 492, 493, 494, 495, 496, 497, 498, 499, 500, 504, 505, 506] (by decide +kernel) (by decide +kernel)) (goodIn_sub (fun _ h => List.mem_append_left _ (List.mem_append_left _ (List.mem_append_right _ h))) (by decide +kernel))
set_option maxRecDepth 20000 in
theorem gL_law_L_about : GoodIn wsL_law (va_wsS RL 97 yL_about wsL_about) := goodIn_app (goodIn_of _ (by decide +kernel)) ggL_law_L_about
set_option maxRecDepth 20000 in
theorem ggL_law_X4_about : GoodIn wsL_law wsX4_about := goodIn_r _ [251, 73, 208, 209, 210, 5, 211, 124, 76, 77, 78, 212, 213, 214, 215, 47, 79, 80, 81, 82, 486, 487, 488, 489, 490, 491] (by decide +kernel) (by decide +kernel)
set_option maxRecDepth 20000 in
theorem gL_law_X4_about : GoodIn wsL_law (wsV RL 99 RX4 yX4_about wsX4_about) := goodIn_app (goodIn_of _ (by decide +kernel)) ggL_law_X4_about
set_option maxRecDepth 20000 in
theorem ggL_law_L_count : GoodIn wsL_law wsL_count := goodIn_ca (goodIn_r _ [254, 54, 255, 256, 257, 2, 258, 60, 61, 16, 259, 260, 261, 15, 262, 263, 23, 264, 265, 266, 267, 268, 269, 24, 270, 271, 272, 273, 274, 275, 276, 277, 278, 28, 279, 280, 281, 282, 484, 485, 492, 493, 494, 495, 496, 497, 498, 499, 500, 504, 505, 506] (by decide +kernel) (by decide +kernel)) (goodIn_sub (fun _ h => List.mem_append_left _ (List.mem_append_left _ (List.mem_append_right _ h))) (by decide +kernel))
set_option maxRecDepth 20000 in
theorem gL_law_L_count : GoodIn wsL_law (va_wsS RL 100 yL_count wsL_count) := goodIn_app (goodIn_of _ (by decide +kernel)) ggL_law_L_count
set_option maxRecDepth 20000 in
theorem ggL_law_X4_count : GoodIn wsL_law wsX4_count := goodIn_r _ [286, 73, 76, 77, 5, 78, 287, 288, 289, 290, 22, 47, 291, 292, 293, 294, 49, 295, 296, 297, 298, 124, 212, 213, 214, 215, 79, 80, 81, 82, 486, 487, 488, 489, 490, 491] (by decide +kernel) (by decide +kernel)
set_option maxRecDepth 20000 in
theorem gL_law_X4_count : GoodIn wsL_law (wsV RL 103 RX4 yX4_count wsX4_count) := goodIn_app (goodIn_of _ (by decide +kernel)) ggL_law_X4_count
set_option maxRecDepth 20000 in
theorem ggL_law_X3_next : GoodIn wsL_law wsX3_next := goodIn_r _ [302, 16, 303, 304, 305, 15, 306, 278, 28, 484, 485, 492, 493, 494, 495, 496, 497, 498, 499, 500, 504, 505, 506] (by decide +kernel) (by decide +kernel)
set_option maxRecDepth 20000 in
theorem gL_law_X3_next : GoodIn wsL_law (wsV RL 104 RX3 yX3_next wsX3_next) := goodIn_app (goodIn_of _ (by decide +kernel)) ggL_law_X3_next
set_option maxRecDepth 20000 in
theorem ggL_law_X4_next : GoodIn wsL_law wsX4_next := goodIn_r _ [310, 73, 311, 312, 313, 5, 314, 124, 212, 213, 214, 215, 47, 486, 487, 488, 489, 490, 491] (by decide +kernel) (by decide +kernel)
set_option maxRecDepth 20000 in
theorem gL_law_X4_next : GoodIn wsL_law (wsV RL 107 RX4 yX4_next wsX4_next) := goodIn_app (goodIn_of _ (by decide +kernel)) ggL_law_X4_next
set_option maxRecDepth 20000 in
theorem ggL_law_L_pass : GoodIn wsL_law wsL_pass := goodIn_ca (goodIn_r _ [317, 55, 318, 319, 320, 2, 321, 16, 322, 323, 324, 62, 63, 325, 326, 327, 15, 328, 329, 330, 331, 332, 263, 333, 26, 278, 28, 23, 266, 267, 268, 269, 24, 270, 271, 272, 273, 334, 335, 336, 30, 337, 176, 177, 231, 338, 339, 65, 66, 67, 68, 340, 341, 342, 201, 202, 343, 344, 345, 32, 346, 197, 199, 198, 200, 347, 348, 349, 350, 351, 352, 353, 354, 265, 264, 355, 304, 305, 306, 356, 357, 358, 359, 247, 360, 361, 362, 363, 364, 365, 484, 485, 492, 493, 494, 495, 496, 497, 498, 499, 500, 501, 502, 503, 504, 505, 506] (by decide +kernel) (by decide +kernel)) (goodIn_sub (fun _ h => List.mem_append_left _ (List.mem_append_right _ h)) (by decide +kernel))
set_option maxRecDepth 20000 in
theorem gL_law_L_pass : GoodIn wsL_law (va_wsS RL 108 yL_pass wsL_pass) := goodIn_app (goodIn_of _ (by decide +kernel)) ggL_law_L_pass
set_option maxRecDepth 20000 in
theorem ggL_law_X4_pass : GoodIn wsL_law wsX4_pass := goodIn_r _ [369, 73, 47, 76, 77, 5, 78, 79, 80, 81, 82, 370, 371, 372, 373, 112, 124, 207, 201, 67, 202, 291, 292, 293, 294, 49, 374, 375, 376, 377, 75, 66, 68, 157, 158, 159, 160, 161, 162, 163, 164, 378, 379, 380, 381, 212, 213, 214, 215, 216, 217, 218, 219, 382, 383, 384, 385, 311, 312, 313, 314, 486, 487, 488, 489, 490, 491] (by decide +kernel) (by decide +kernel)
set_option maxRecDepth 20000 in
theorem gL_law_X4_pass : GoodIn wsL_law (wsV RL 110 RX4 yX4_pass wsX4_pass) := goodIn_app (goodIn_of _ (by decide +kernel)) ggL_law_X4_pass
set_option maxRecDepth 20000 in
theorem ggL_law_L_done : GoodIn wsL_law wsL_done := goodIn_ca (goodIn_r _ [388, 54, 389, 390, 391, 2, 392, 16, 132, 133, 134, 135, 60, 61, 393, 394, 395, 15, 396, 263, 338, 339, 65, 66, 67, 68, 266, 267, 268, 269, 24, 270, 271, 272, 273, 340, 341, 342, 201, 202, 484, 485, 492, 493, 494, 495, 496, 497, 498, 499, 500, 501, 502, 503] (by decide +kernel) (by decide +kernel)) (goodIn_sub (fun _ h => List.mem_append_left _ (List.mem_append_left _ (List.mem_append_right _ h))) (by decide +kernel))
set_option maxRecDepth 20000 in
theorem gL_law_L_done : GoodIn wsL_law (va_wsS RL 111 yL_done wsL_done) := goodIn_app (goodIn_of _ (by decide +kernel)) ggL_law_L_done
set_option maxRecDepth 20000 in
theorem ggL_law_X4_done : GoodIn wsL_law wsX4_done := goodIn_r _ [400, 73, 149, 150, 151, 5, 152, 112, 76, 77, 78, 79, 80, 81, 82, 157, 158, 159, 160, 47, 401, 402, 403, 404, 48, 405, 406, 407, 408, 370, 371, 372, 373, 124, 207, 201, 67, 202, 291, 292, 293, 294, 49, 374, 375, 376, 377, 75, 66, 68, 161, 162, 163, 164, 378, 379, 380, 381, 212, 213, 214, 215, 216, 217, 218, 219, 382, 383, 384, 385, 311, 312, 313, 314, 409, 410, 411, 412, 486, 487, 488, 489, 490, 491] (by decide +kernel) (by decide +kernel)
set_option maxRecDepth 20000 in
theorem gL_law_X4_done : GoodIn wsL_law (wsV RL 113 RX4 yX4_done wsX4_done) := goodIn_app (goodIn_of _ (by decide +kernel)) ggL_law_X4_done
set_option maxRecDepth 20000 in
theorem ggL_law_L_foresee : GoodIn wsL_law wsL_foresee := goodIn_ca (goodIn_ca (goodIn_r _ [415, 55, 54, 416, 417, 418, 2, 419, 60, 61, 17, 16, 322, 323, 324, 62, 63, 420, 421, 422, 15, 423, 23, 424, 406, 407, 408, 24, 26, 28, 333, 278, 263, 264, 265, 425, 426, 427, 30, 428, 231, 176, 177, 429, 430, 431, 32, 432, 197, 199, 247, 325, 326, 327, 328, 329, 330, 331, 332, 266, 267, 268, 269, 270, 271, 272, 273, 334, 335, 336, 337, 338, 339, 65, 66, 67, 68, 340, 341, 342, 201, 202, 343, 344, 345, 346, 198, 200, 347, 348, 349, 350, 351, 352, 353, 354, 355, 304, 305, 306, 356, 357, 358, 359, 360, 361, 362, 363, 364, 365, 259, 260, 261, 262, 274, 275, 276, 277, 279, 280, 281, 282, 484, 485, 492, 493, 494, 495, 496, 497, 498, 499, 500, 501, 502, 503, 504, 505, 506] (by decide +kernel) (by decide +kernel)) (goodIn_sub (fun _ h => List.mem_append_left _ (List.mem_append_left _ (List.mem_append_right _ h))) (by decide +kernel))) (goodIn_sub (fun _ h => List.mem_append_left _ (List.mem_append_right _ h)) (by decide +kernel))
set_option maxRecDepth 20000 in
theorem gL_law_L_foresee : GoodIn wsL_law (va_wsS RL 114 yL_foresee wsL_foresee) := goodIn_app (goodIn_of _ (by decide +kernel)) ggL_law_L_foresee
set_option maxRecDepth 20000 in
theorem ggL_law_X4_foresee : GoodIn wsL_law wsX4_foresee := goodIn_r _ [436, 73, 76, 77, 5, 78, 79, 80, 81, 82, 401, 402, 403, 404, 47, 48, 405, 406, 407, 408, 370, 371, 372, 373, 112, 124, 207, 201, 67, 202, 291, 292, 293, 294, 49, 374, 375, 376, 377, 75, 66, 68, 157, 158, 159, 160, 161, 162, 163, 164, 378, 379, 380, 381, 212, 213, 214, 215, 216, 217, 218, 219, 382, 383, 384, 385, 311, 312, 313, 314, 287, 288, 289, 290, 22, 295, 296, 297, 298, 409, 410, 411, 412, 486, 487, 488, 489, 490, 491] (by decide +kernel) (by decide +kernel)
set_option maxRecDepth 20000 in
theorem gL_law_X4_foresee : GoodIn wsL_law (wsV RL 116 RX4 yX4_foresee wsX4_foresee) := goodIn_app (goodIn_of _ (by decide +kernel)) ggL_law_X4_foresee
set_option maxRecDepth 20000 in
theorem ggL_law_X3_lasts : GoodIn wsL_law wsX3_lasts := goodIn_r _ [440, 16, 441, 442, 443, 15, 444, 23, 263, 266, 267, 268, 269, 24, 270, 271, 272, 273, 360, 2, 361, 342, 201, 67, 202, 484, 485, 492, 493, 494, 495, 496, 497, 498, 499, 500] (by decide +kernel) (by decide +kernel)
set_option maxRecDepth 20000 in
theorem gL_law_X3_lasts : GoodIn wsL_law (wsV RL 117 RX3 yX3_lasts wsX3_lasts) := goodIn_app (goodIn_of _ (by decide +kernel)) ggL_law_X3_lasts
set_option maxRecDepth 20000 in
theorem ggL_law_X4_lasts : GoodIn wsL_law wsX4_lasts := goodIn_r _ [448, 73, 47, 49, 486, 487, 488, 489, 490, 491] (by decide +kernel) (by decide +kernel)
set_option maxRecDepth 20000 in
theorem gL_law_X4_lasts : GoodIn wsL_law (wsV RL 120 RX4 yX4_lasts wsX4_lasts) := goodIn_app (goodIn_of _ (by decide +kernel)) ggL_law_X4_lasts
set_option maxRecDepth 20000 in
theorem ggL_law_L_salt : GoodIn wsL_law wsL_salt := goodIn_ca (goodIn_ca (goodIn_r _ [451, 54, 55, 452, 453, 454, 2, 455, 342, 201, 67, 202, 65, 66, 68, 132, 133, 134, 135, 60, 61, 16, 136, 137, 138, 62, 63, 142, 143, 144, 501, 502, 503, 484, 485, 492, 493, 494, 495, 496, 497, 498, 499, 500] (by decide +kernel) (by decide +kernel)) (goodIn_sub (fun _ h => List.mem_append_left _ (List.mem_append_left _ (List.mem_append_right _ h))) (by decide +kernel))) (goodIn_sub (fun _ h => List.mem_append_left _ (List.mem_append_right _ h)) (by decide +kernel))
set_option maxRecDepth 20000 in
theorem gL_law_L_salt : GoodIn wsL_law (va_wsS RL 121 yL_salt wsL_salt) := goodIn_app (goodIn_of _ (by decide +kernel)) ggL_law_L_salt
set_option maxRecDepth 20000 in
theorem ggL_law_X4_salt : GoodIn wsL_law wsX4_salt := goodIn_r _ [459, 73, 149, 150, 151, 5, 152, 112, 76, 77, 78, 79, 80, 81, 82, 153, 154, 155, 156, 75, 66, 67, 68, 157, 158, 159, 160, 47, 486, 487, 488, 489, 490, 491] (by decide +kernel) (by decide +kernel)
set_option maxRecDepth 20000 in
theorem gL_law_X4_salt : GoodIn wsL_law (wsV RL 123 RX4 yX4_salt wsX4_salt) := goodIn_app (goodIn_of _ (by decide +kernel)) ggL_law_X4_salt
set_option maxRecDepth 20000 in
theorem ggL_law_X3_share : GoodIn wsL_law wsX3_share := goodIn_r _ [463, 16, 464, 280, 281, 15, 282, 278, 28, 484, 485, 492, 493, 494, 495, 496, 497, 498, 499, 500, 504, 505, 506] (by decide +kernel) (by decide +kernel)
set_option maxRecDepth 20000 in
theorem gL_law_X3_share : GoodIn wsL_law (wsV RL 124 RX3 yX3_share wsX3_share) := goodIn_app (goodIn_of _ (by decide +kernel)) ggL_law_X3_share
set_option maxRecDepth 20000 in
theorem ggL_law_X4_share : GoodIn wsL_law wsX4_share := goodIn_r _ [468, 73, 47, 295, 296, 297, 5, 298, 124, 212, 213, 214, 215, 486, 487, 488, 489, 490, 491] (by decide +kernel) (by decide +kernel)
set_option maxRecDepth 20000 in
theorem gL_law_X4_share : GoodIn wsL_law (wsV RL 128 RX4 yX4_share wsX4_share) := goodIn_app (goodIn_of _ (by decide +kernel)) ggL_law_X4_share
set_option maxRecDepth 20000 in
theorem ggL_law_X3_digest : GoodIn wsL_law wsX3_digest := goodIn_r _ [472, 473, 16, 259, 260, 261, 15, 262, 263, 23, 264, 265, 266, 267, 268, 269, 24, 270, 271, 272, 273, 274, 275, 276, 277, 278, 28, 279, 280, 281, 282, 474, 475, 2, 476, 477, 227, 228, 229, 30, 230, 231, 176, 177, 243, 244, 245, 32, 246, 197, 199, 247, 484, 485, 492, 493, 494, 495, 496, 497, 498, 499, 500, 504, 505, 506, 501, 502, 503] (by decide +kernel) (by decide +kernel)
set_option maxRecDepth 20000 in
theorem gL_law_X3_digest : GoodIn wsL_law (wsV RL 129 RX3 yX3_digest wsX3_digest) := goodIn_app (goodIn_of _ (by decide +kernel)) ggL_law_X3_digest
set_option maxRecDepth 20000 in
theorem ggL_law_X4_digest : GoodIn wsL_law wsX4_digest := goodIn_r _ [481, 73, 482, 483, 49, 112, 47, 124, 287, 288, 289, 5, 290, 22, 291, 292, 293, 294, 295, 296, 297, 298, 212, 213, 214, 215, 486, 487, 488, 489, 490, 491] (by decide +kernel) (by decide +kernel)
set_option maxRecDepth 20000 in
theorem gL_law_X4_digest : GoodIn wsL_law (wsV RL 133 RX4 yX4_digest wsX4_digest) := goodIn_app (goodIn_of _ (by decide +kernel)) ggL_law_X4_digest
theorem dL_law_0 : decode cL_law 0 = .ok (.new 8, 3) := by decide +kernel
theorem dL_law_3 : decode cL_law 3 = .ok (.dup, 1) := by decide +kernel
theorem dL_law_4 : decode cL_law 4 = .ok (.invokespecial 61, 3) := by decide +kernel
theorem dL_law_7 : decode cL_law 7 = .ok (.astore_n 1, 1) := by decide +kernel
theorem dL_law_8 : decode cL_law 8 = .ok (.new 62, 3) := by decide +kernel
theorem dL_law_11 : decode cL_law 11 = .ok (.dup, 1) := by decide +kernel
theorem dL_law_12 : decode cL_law 12 = .ok (.invokespecial 64, 3) := by decide +kernel
theorem dL_law_15 : decode cL_law 15 = .ok (.astore_n 2, 1) := by decide +kernel
theorem dL_law_16 : decode cL_law 16 = .ok (.iconst 1, 1) := by decide +kernel
theorem dL_law_17 : decode cL_law 17 = .ok (.newarray .long, 2) := by decide +kernel
theorem dL_law_19 : decode cL_law 19 = .ok (.astore_n 3, 1) := by decide +kernel
theorem dL_law_20 : decode cL_law 20 = .ok (.iconst 0, 1) := by decide +kernel
theorem dL_law_21 : decode cL_law 21 = .ok (.istore 4, 2) := by decide +kernel
theorem dL_law_23 : decode cL_law 23 = .ok (.iload 4, 2) := by decide +kernel
theorem dL_law_25 : decode cL_law 25 = .ok (.aload_n 0, 1) := by decide +kernel
theorem dL_law_26 : decode cL_law 26 = .ok (.arraylength, 1) := by decide +kernel
theorem dL_law_27 : decode cL_law 27 = .ok (.iconst 4, 1) := by decide +kernel
theorem dL_law_28 : decode cL_law 28 = .ok (.isub, 1) := by decide +kernel
theorem dL_law_29 : decode cL_law 29 = .ok (.if_icmp .gt 1062, 3) := by decide +kernel
theorem dL_law_32 : decode cL_law 32 = .ok (.aload_n 0, 1) := by decide +kernel
theorem dL_law_33 : decode cL_law 33 = .ok (.iload 4, 2) := by decide +kernel
theorem dL_law_35 : decode cL_law 35 = .ok (.iaload, 1) := by decide +kernel
theorem dL_law_36 : decode cL_law 36 = .ok (.bipush 31, 2) := by decide +kernel
theorem dL_law_38 : decode cL_law 38 = .ok (.iand, 1) := by decide +kernel
theorem dL_law_39 : decode cL_law 39 = .ok (.tableswitch 1046 0 17 #[85, 153, 221, 265, 309, 389, 457, 525, 593, 661, 717, 730, 786, 842, 910, 923, 991, 1032], 85) := by decide +kernel
theorem dL_law_124 : decode cL_law 124 = .ok (.aload_n 1, 1) := by decide +kernel
theorem dL_law_125 : decode cL_law 125 = .ok (.aload_n 0, 1) := by decide +kernel
theorem dL_law_126 : decode cL_law 126 = .ok (.iload 4, 2) := by decide +kernel
theorem dL_law_128 : decode cL_law 128 = .ok (.iconst 1, 1) := by decide +kernel
theorem dL_law_129 : decode cL_law 129 = .ok (.iadd, 1) := by decide +kernel
theorem dL_law_130 : decode cL_law 130 = .ok (.iaload, 1) := by decide +kernel
theorem dL_law_131 : decode cL_law 131 = .ok (.aload_n 0, 1) := by decide +kernel
theorem dL_law_132 : decode cL_law 132 = .ok (.iload 4, 2) := by decide +kernel
theorem dL_law_134 : decode cL_law 134 = .ok (.iconst 2, 1) := by decide +kernel
theorem dL_law_135 : decode cL_law 135 = .ok (.iadd, 1) := by decide +kernel
theorem dL_law_136 : decode cL_law 136 = .ok (.iaload, 1) := by decide +kernel
theorem dL_law_137 : decode cL_law 137 = .ok (.aload_n 3, 1) := by decide +kernel
theorem dL_law_138 : decode cL_law 138 = .ok (.invokestatic 65, 3) := by decide +kernel
theorem dL_law_141 : decode cL_law 141 = .ok (.istore 5, 2) := by decide +kernel
theorem dL_law_143 : decode cL_law 143 = .ok (.aload_n 2, 1) := by decide +kernel
theorem dL_law_144 : decode cL_law 144 = .ok (.aload_n 0, 1) := by decide +kernel
theorem dL_law_145 : decode cL_law 145 = .ok (.iload 4, 2) := by decide +kernel
theorem dL_law_147 : decode cL_law 147 = .ok (.iconst 1, 1) := by decide +kernel
theorem dL_law_148 : decode cL_law 148 = .ok (.iadd, 1) := by decide +kernel
theorem dL_law_149 : decode cL_law 149 = .ok (.iaload, 1) := by decide +kernel
theorem dL_law_150 : decode cL_law 150 = .ok (.aload_n 0, 1) := by decide +kernel
theorem dL_law_151 : decode cL_law 151 = .ok (.iload 4, 2) := by decide +kernel
theorem dL_law_153 : decode cL_law 153 = .ok (.iconst 2, 1) := by decide +kernel
theorem dL_law_154 : decode cL_law 154 = .ok (.iadd, 1) := by decide +kernel
theorem dL_law_155 : decode cL_law 155 = .ok (.iaload, 1) := by decide +kernel
theorem dL_law_156 : decode cL_law 156 = .ok (.invokevirtual 70, 3) := by decide +kernel
theorem dL_law_159 : decode cL_law 159 = .ok (.istore 6, 2) := by decide +kernel
theorem dL_law_161 : decode cL_law 161 = .ok (.aload_n 2, 1) := by decide +kernel
theorem dL_law_162 : decode cL_law 162 = .ok (.invokevirtual 71, 3) := by decide +kernel
theorem dL_law_165 : decode cL_law 165 = .ok (.iload 5, 2) := by decide +kernel
theorem dL_law_167 : decode cL_law 167 = .ok (.if_icmp .eq 5, 3) := by decide +kernel
theorem dL_law_170 : decode cL_law 170 = .ok (.iconst 0, 1) := by decide +kernel
theorem dL_law_171 : decode cL_law 171 = .ok (.ireturn, 1) := by decide +kernel
theorem dL_law_172 : decode cL_law 172 = .ok (.iload 5, 2) := by decide +kernel
theorem dL_law_174 : decode cL_law 174 = .ok (.ifCond .ne 15, 3) := by decide +kernel
theorem dL_law_177 : decode cL_law 177 = .ok (.aload_n 3, 1) := by decide +kernel
theorem dL_law_178 : decode cL_law 178 = .ok (.iconst 0, 1) := by decide +kernel
theorem dL_law_179 : decode cL_law 179 = .ok (.laload, 1) := by decide +kernel
theorem dL_law_180 : decode cL_law 180 = .ok (.iload 6, 2) := by decide +kernel
theorem dL_law_182 : decode cL_law 182 = .ok (.i2l, 1) := by decide +kernel
theorem dL_law_183 : decode cL_law 183 = .ok (.lcmp, 1) := by decide +kernel
theorem dL_law_184 : decode cL_law 184 = .ok (.ifCond .eq 5, 3) := by decide +kernel
theorem dL_law_187 : decode cL_law 187 = .ok (.iconst 0, 1) := by decide +kernel
theorem dL_law_188 : decode cL_law 188 = .ok (.ireturn, 1) := by decide +kernel
theorem dL_law_189 : decode cL_law 189 = .ok (.goto 896, 3) := by decide +kernel
theorem dL_law_192 : decode cL_law 192 = .ok (.aload_n 1, 1) := by decide +kernel
theorem dL_law_193 : decode cL_law 193 = .ok (.aload_n 0, 1) := by decide +kernel
theorem dL_law_194 : decode cL_law 194 = .ok (.iload 4, 2) := by decide +kernel
theorem dL_law_196 : decode cL_law 196 = .ok (.iconst 1, 1) := by decide +kernel
theorem dL_law_197 : decode cL_law 197 = .ok (.iadd, 1) := by decide +kernel
theorem dL_law_198 : decode cL_law 198 = .ok (.iaload, 1) := by decide +kernel
theorem dL_law_199 : decode cL_law 199 = .ok (.aload_n 0, 1) := by decide +kernel
theorem dL_law_200 : decode cL_law 200 = .ok (.iload 4, 2) := by decide +kernel
theorem dL_law_202 : decode cL_law 202 = .ok (.iconst 2, 1) := by decide +kernel
theorem dL_law_203 : decode cL_law 203 = .ok (.iadd, 1) := by decide +kernel
theorem dL_law_204 : decode cL_law 204 = .ok (.iaload, 1) := by decide +kernel
theorem dL_law_205 : decode cL_law 205 = .ok (.aload_n 3, 1) := by decide +kernel
theorem dL_law_206 : decode cL_law 206 = .ok (.invokestatic 74, 3) := by decide +kernel
theorem dL_law_209 : decode cL_law 209 = .ok (.istore 5, 2) := by decide +kernel
theorem dL_law_211 : decode cL_law 211 = .ok (.aload_n 2, 1) := by decide +kernel
theorem dL_law_212 : decode cL_law 212 = .ok (.aload_n 0, 1) := by decide +kernel
theorem dL_law_213 : decode cL_law 213 = .ok (.iload 4, 2) := by decide +kernel
theorem dL_law_215 : decode cL_law 215 = .ok (.iconst 1, 1) := by decide +kernel
theorem dL_law_216 : decode cL_law 216 = .ok (.iadd, 1) := by decide +kernel
theorem dL_law_217 : decode cL_law 217 = .ok (.iaload, 1) := by decide +kernel
theorem dL_law_218 : decode cL_law 218 = .ok (.aload_n 0, 1) := by decide +kernel
theorem dL_law_219 : decode cL_law 219 = .ok (.iload 4, 2) := by decide +kernel
theorem dL_law_221 : decode cL_law 221 = .ok (.iconst 2, 1) := by decide +kernel
theorem dL_law_222 : decode cL_law 222 = .ok (.iadd, 1) := by decide +kernel
theorem dL_law_223 : decode cL_law 223 = .ok (.iaload, 1) := by decide +kernel
theorem dL_law_224 : decode cL_law 224 = .ok (.invokevirtual 76, 3) := by decide +kernel
theorem dL_law_227 : decode cL_law 227 = .ok (.istore 6, 2) := by decide +kernel
theorem dL_law_229 : decode cL_law 229 = .ok (.aload_n 2, 1) := by decide +kernel
theorem dL_law_230 : decode cL_law 230 = .ok (.invokevirtual 71, 3) := by decide +kernel
theorem dL_law_233 : decode cL_law 233 = .ok (.iload 5, 2) := by decide +kernel
theorem dL_law_235 : decode cL_law 235 = .ok (.if_icmp .eq 5, 3) := by decide +kernel
theorem dL_law_238 : decode cL_law 238 = .ok (.iconst 0, 1) := by decide +kernel
theorem dL_law_239 : decode cL_law 239 = .ok (.ireturn, 1) := by decide +kernel
theorem dL_law_240 : decode cL_law 240 = .ok (.iload 5, 2) := by decide +kernel
theorem dL_law_242 : decode cL_law 242 = .ok (.ifCond .ne 15, 3) := by decide +kernel
theorem dL_law_245 : decode cL_law 245 = .ok (.aload_n 3, 1) := by decide +kernel
theorem dL_law_246 : decode cL_law 246 = .ok (.iconst 0, 1) := by decide +kernel
theorem dL_law_247 : decode cL_law 247 = .ok (.laload, 1) := by decide +kernel
theorem dL_law_248 : decode cL_law 248 = .ok (.iload 6, 2) := by decide +kernel
theorem dL_law_250 : decode cL_law 250 = .ok (.i2l, 1) := by decide +kernel
theorem dL_law_251 : decode cL_law 251 = .ok (.lcmp, 1) := by decide +kernel
theorem dL_law_252 : decode cL_law 252 = .ok (.ifCond .eq 5, 3) := by decide +kernel
theorem dL_law_255 : decode cL_law 255 = .ok (.iconst 0, 1) := by decide +kernel
theorem dL_law_256 : decode cL_law 256 = .ok (.ireturn, 1) := by decide +kernel
theorem dL_law_257 : decode cL_law 257 = .ok (.goto 828, 3) := by decide +kernel
theorem dL_law_260 : decode cL_law 260 = .ok (.aload_n 1, 1) := by decide +kernel
theorem dL_law_261 : decode cL_law 261 = .ok (.aload_n 3, 1) := by decide +kernel
theorem dL_law_262 : decode cL_law 262 = .ok (.invokestatic 77, 3) := by decide +kernel
theorem dL_law_265 : decode cL_law 265 = .ok (.istore 5, 2) := by decide +kernel
theorem dL_law_267 : decode cL_law 267 = .ok (.aload_n 2, 1) := by decide +kernel
theorem dL_law_268 : decode cL_law 268 = .ok (.invokevirtual 80, 3) := by decide +kernel
theorem dL_law_271 : decode cL_law 271 = .ok (.istore 6, 2) := by decide +kernel
theorem dL_law_273 : decode cL_law 273 = .ok (.aload_n 2, 1) := by decide +kernel
theorem dL_law_274 : decode cL_law 274 = .ok (.invokevirtual 71, 3) := by decide +kernel
theorem dL_law_277 : decode cL_law 277 = .ok (.iload 5, 2) := by decide +kernel
theorem dL_law_279 : decode cL_law 279 = .ok (.if_icmp .eq 5, 3) := by decide +kernel
theorem dL_law_282 : decode cL_law 282 = .ok (.iconst 0, 1) := by decide +kernel
theorem dL_law_283 : decode cL_law 283 = .ok (.ireturn, 1) := by decide +kernel
theorem dL_law_284 : decode cL_law 284 = .ok (.iload 5, 2) := by decide +kernel
theorem dL_law_286 : decode cL_law 286 = .ok (.ifCond .ne 15, 3) := by decide +kernel
theorem dL_law_289 : decode cL_law 289 = .ok (.aload_n 3, 1) := by decide +kernel
theorem dL_law_290 : decode cL_law 290 = .ok (.iconst 0, 1) := by decide +kernel
theorem dL_law_291 : decode cL_law 291 = .ok (.laload, 1) := by decide +kernel
theorem dL_law_292 : decode cL_law 292 = .ok (.iload 6, 2) := by decide +kernel
theorem dL_law_294 : decode cL_law 294 = .ok (.i2l, 1) := by decide +kernel
theorem dL_law_295 : decode cL_law 295 = .ok (.lcmp, 1) := by decide +kernel
theorem dL_law_296 : decode cL_law 296 = .ok (.ifCond .eq 5, 3) := by decide +kernel
theorem dL_law_299 : decode cL_law 299 = .ok (.iconst 0, 1) := by decide +kernel
theorem dL_law_300 : decode cL_law 300 = .ok (.ireturn, 1) := by decide +kernel
theorem dL_law_301 : decode cL_law 301 = .ok (.goto 784, 3) := by decide +kernel
theorem dL_law_304 : decode cL_law 304 = .ok (.aload_n 1, 1) := by decide +kernel
theorem dL_law_305 : decode cL_law 305 = .ok (.aload_n 3, 1) := by decide +kernel
theorem dL_law_306 : decode cL_law 306 = .ok (.invokestatic 81, 3) := by decide +kernel
theorem dL_law_309 : decode cL_law 309 = .ok (.istore 5, 2) := by decide +kernel
theorem dL_law_311 : decode cL_law 311 = .ok (.aload_n 2, 1) := by decide +kernel
theorem dL_law_312 : decode cL_law 312 = .ok (.invokevirtual 83, 3) := by decide +kernel
theorem dL_law_315 : decode cL_law 315 = .ok (.istore 6, 2) := by decide +kernel
theorem dL_law_317 : decode cL_law 317 = .ok (.aload_n 2, 1) := by decide +kernel
theorem dL_law_318 : decode cL_law 318 = .ok (.invokevirtual 71, 3) := by decide +kernel
theorem dL_law_321 : decode cL_law 321 = .ok (.iload 5, 2) := by decide +kernel
theorem dL_law_323 : decode cL_law 323 = .ok (.if_icmp .eq 5, 3) := by decide +kernel
theorem dL_law_326 : decode cL_law 326 = .ok (.iconst 0, 1) := by decide +kernel
theorem dL_law_327 : decode cL_law 327 = .ok (.ireturn, 1) := by decide +kernel
theorem dL_law_328 : decode cL_law 328 = .ok (.iload 5, 2) := by decide +kernel
theorem dL_law_330 : decode cL_law 330 = .ok (.ifCond .ne 15, 3) := by decide +kernel
theorem dL_law_333 : decode cL_law 333 = .ok (.aload_n 3, 1) := by decide +kernel
theorem dL_law_334 : decode cL_law 334 = .ok (.iconst 0, 1) := by decide +kernel
theorem dL_law_335 : decode cL_law 335 = .ok (.laload, 1) := by decide +kernel
theorem dL_law_336 : decode cL_law 336 = .ok (.iload 6, 2) := by decide +kernel
theorem dL_law_338 : decode cL_law 338 = .ok (.i2l, 1) := by decide +kernel
theorem dL_law_339 : decode cL_law 339 = .ok (.lcmp, 1) := by decide +kernel
theorem dL_law_340 : decode cL_law 340 = .ok (.ifCond .eq 5, 3) := by decide +kernel
theorem dL_law_343 : decode cL_law 343 = .ok (.iconst 0, 1) := by decide +kernel
theorem dL_law_344 : decode cL_law 344 = .ok (.ireturn, 1) := by decide +kernel
theorem dL_law_345 : decode cL_law 345 = .ok (.goto 740, 3) := by decide +kernel
theorem dL_law_348 : decode cL_law 348 = .ok (.aload_n 1, 1) := by decide +kernel
theorem dL_law_349 : decode cL_law 349 = .ok (.aload_n 0, 1) := by decide +kernel
end
section
theorem dL_law_350 : decode cL_law 350 = .ok (.iload 4, 2) := by decide +kernel
theorem dL_law_352 : decode cL_law 352 = .ok (.iconst 1, 1) := by decide +kernel
theorem dL_law_353 : decode cL_law 353 = .ok (.iadd, 1) := by decide +kernel
theorem dL_law_354 : decode cL_law 354 = .ok (.iaload, 1) := by decide +kernel
theorem dL_law_355 : decode cL_law 355 = .ok (.aload_n 0, 1) := by decide +kernel
theorem dL_law_356 : decode cL_law 356 = .ok (.iload 4, 2) := by decide +kernel
theorem dL_law_358 : decode cL_law 358 = .ok (.iconst 2, 1) := by decide +kernel
theorem dL_law_359 : decode cL_law 359 = .ok (.iadd, 1) := by decide +kernel
theorem dL_law_360 : decode cL_law 360 = .ok (.iaload, 1) := by decide +kernel
theorem dL_law_361 : decode cL_law 361 = .ok (.aload_n 0, 1) := by decide +kernel
theorem dL_law_362 : decode cL_law 362 = .ok (.iload 4, 2) := by decide +kernel
theorem dL_law_364 : decode cL_law 364 = .ok (.iconst 3, 1) := by decide +kernel
theorem dL_law_365 : decode cL_law 365 = .ok (.iadd, 1) := by decide +kernel
theorem dL_law_366 : decode cL_law 366 = .ok (.iaload, 1) := by decide +kernel
theorem dL_law_367 : decode cL_law 367 = .ok (.aload_n 3, 1) := by decide +kernel
theorem dL_law_368 : decode cL_law 368 = .ok (.invokestatic 84, 3) := by decide +kernel
theorem dL_law_371 : decode cL_law 371 = .ok (.istore 5, 2) := by decide +kernel
theorem dL_law_373 : decode cL_law 373 = .ok (.aload_n 2, 1) := by decide +kernel
theorem dL_law_374 : decode cL_law 374 = .ok (.aload_n 0, 1) := by decide +kernel
theorem dL_law_375 : decode cL_law 375 = .ok (.iload 4, 2) := by decide +kernel
theorem dL_law_377 : decode cL_law 377 = .ok (.iconst 1, 1) := by decide +kernel
theorem dL_law_378 : decode cL_law 378 = .ok (.iadd, 1) := by decide +kernel
theorem dL_law_379 : decode cL_law 379 = .ok (.iaload, 1) := by decide +kernel
theorem dL_law_380 : decode cL_law 380 = .ok (.aload_n 0, 1) := by decide +kernel
theorem dL_law_381 : decode cL_law 381 = .ok (.iload 4, 2) := by decide +kernel
theorem dL_law_383 : decode cL_law 383 = .ok (.iconst 2, 1) := by decide +kernel
theorem dL_law_384 : decode cL_law 384 = .ok (.iadd, 1) := by decide +kernel
theorem dL_law_385 : decode cL_law 385 = .ok (.iaload, 1) := by decide +kernel
theorem dL_law_386 : decode cL_law 386 = .ok (.aload_n 0, 1) := by decide +kernel
theorem dL_law_387 : decode cL_law 387 = .ok (.iload 4, 2) := by decide +kernel
theorem dL_law_389 : decode cL_law 389 = .ok (.iconst 3, 1) := by decide +kernel
theorem dL_law_390 : decode cL_law 390 = .ok (.iadd, 1) := by decide +kernel
theorem dL_law_391 : decode cL_law 391 = .ok (.iaload, 1) := by decide +kernel
theorem dL_law_392 : decode cL_law 392 = .ok (.invokevirtual 87, 3) := by decide +kernel
theorem dL_law_395 : decode cL_law 395 = .ok (.istore 6, 2) := by decide +kernel
theorem dL_law_397 : decode cL_law 397 = .ok (.aload_n 2, 1) := by decide +kernel
theorem dL_law_398 : decode cL_law 398 = .ok (.invokevirtual 71, 3) := by decide +kernel
theorem dL_law_401 : decode cL_law 401 = .ok (.iload 5, 2) := by decide +kernel
theorem dL_law_403 : decode cL_law 403 = .ok (.if_icmp .eq 5, 3) := by decide +kernel
theorem dL_law_406 : decode cL_law 406 = .ok (.iconst 0, 1) := by decide +kernel
theorem dL_law_407 : decode cL_law 407 = .ok (.ireturn, 1) := by decide +kernel
theorem dL_law_408 : decode cL_law 408 = .ok (.iload 5, 2) := by decide +kernel
theorem dL_law_410 : decode cL_law 410 = .ok (.ifCond .ne 15, 3) := by decide +kernel
theorem dL_law_413 : decode cL_law 413 = .ok (.aload_n 3, 1) := by decide +kernel
theorem dL_law_414 : decode cL_law 414 = .ok (.iconst 0, 1) := by decide +kernel
theorem dL_law_415 : decode cL_law 415 = .ok (.laload, 1) := by decide +kernel
theorem dL_law_416 : decode cL_law 416 = .ok (.iload 6, 2) := by decide +kernel
theorem dL_law_418 : decode cL_law 418 = .ok (.i2l, 1) := by decide +kernel
theorem dL_law_419 : decode cL_law 419 = .ok (.lcmp, 1) := by decide +kernel
theorem dL_law_420 : decode cL_law 420 = .ok (.ifCond .eq 5, 3) := by decide +kernel
theorem dL_law_423 : decode cL_law 423 = .ok (.iconst 0, 1) := by decide +kernel
theorem dL_law_424 : decode cL_law 424 = .ok (.ireturn, 1) := by decide +kernel
theorem dL_law_425 : decode cL_law 425 = .ok (.goto 660, 3) := by decide +kernel
theorem dL_law_428 : decode cL_law 428 = .ok (.aload_n 1, 1) := by decide +kernel
theorem dL_law_429 : decode cL_law 429 = .ok (.aload_n 0, 1) := by decide +kernel
theorem dL_law_430 : decode cL_law 430 = .ok (.iload 4, 2) := by decide +kernel
theorem dL_law_432 : decode cL_law 432 = .ok (.iconst 1, 1) := by decide +kernel
theorem dL_law_433 : decode cL_law 433 = .ok (.iadd, 1) := by decide +kernel
theorem dL_law_434 : decode cL_law 434 = .ok (.iaload, 1) := by decide +kernel
theorem dL_law_435 : decode cL_law 435 = .ok (.aload_n 0, 1) := by decide +kernel
theorem dL_law_436 : decode cL_law 436 = .ok (.iload 4, 2) := by decide +kernel
theorem dL_law_438 : decode cL_law 438 = .ok (.iconst 2, 1) := by decide +kernel
theorem dL_law_439 : decode cL_law 439 = .ok (.iadd, 1) := by decide +kernel
theorem dL_law_440 : decode cL_law 440 = .ok (.iaload, 1) := by decide +kernel
theorem dL_law_441 : decode cL_law 441 = .ok (.aload_n 3, 1) := by decide +kernel
theorem dL_law_442 : decode cL_law 442 = .ok (.invokestatic 88, 3) := by decide +kernel
theorem dL_law_445 : decode cL_law 445 = .ok (.istore 5, 2) := by decide +kernel
theorem dL_law_447 : decode cL_law 447 = .ok (.aload_n 2, 1) := by decide +kernel
theorem dL_law_448 : decode cL_law 448 = .ok (.aload_n 0, 1) := by decide +kernel
theorem dL_law_449 : decode cL_law 449 = .ok (.iload 4, 2) := by decide +kernel
theorem dL_law_451 : decode cL_law 451 = .ok (.iconst 1, 1) := by decide +kernel
theorem dL_law_452 : decode cL_law 452 = .ok (.iadd, 1) := by decide +kernel
theorem dL_law_453 : decode cL_law 453 = .ok (.iaload, 1) := by decide +kernel
theorem dL_law_454 : decode cL_law 454 = .ok (.aload_n 0, 1) := by decide +kernel
theorem dL_law_455 : decode cL_law 455 = .ok (.iload 4, 2) := by decide +kernel
theorem dL_law_457 : decode cL_law 457 = .ok (.iconst 2, 1) := by decide +kernel
theorem dL_law_458 : decode cL_law 458 = .ok (.iadd, 1) := by decide +kernel
theorem dL_law_459 : decode cL_law 459 = .ok (.iaload, 1) := by decide +kernel
theorem dL_law_460 : decode cL_law 460 = .ok (.invokevirtual 90, 3) := by decide +kernel
theorem dL_law_463 : decode cL_law 463 = .ok (.istore 6, 2) := by decide +kernel
theorem dL_law_465 : decode cL_law 465 = .ok (.aload_n 2, 1) := by decide +kernel
theorem dL_law_466 : decode cL_law 466 = .ok (.invokevirtual 71, 3) := by decide +kernel
theorem dL_law_469 : decode cL_law 469 = .ok (.iload 5, 2) := by decide +kernel
theorem dL_law_471 : decode cL_law 471 = .ok (.if_icmp .eq 5, 3) := by decide +kernel
theorem dL_law_474 : decode cL_law 474 = .ok (.iconst 0, 1) := by decide +kernel
theorem dL_law_475 : decode cL_law 475 = .ok (.ireturn, 1) := by decide +kernel
theorem dL_law_476 : decode cL_law 476 = .ok (.iload 5, 2) := by decide +kernel
theorem dL_law_478 : decode cL_law 478 = .ok (.ifCond .ne 15, 3) := by decide +kernel
theorem dL_law_481 : decode cL_law 481 = .ok (.aload_n 3, 1) := by decide +kernel
theorem dL_law_482 : decode cL_law 482 = .ok (.iconst 0, 1) := by decide +kernel
theorem dL_law_483 : decode cL_law 483 = .ok (.laload, 1) := by decide +kernel
theorem dL_law_484 : decode cL_law 484 = .ok (.iload 6, 2) := by decide +kernel
theorem dL_law_486 : decode cL_law 486 = .ok (.i2l, 1) := by decide +kernel
theorem dL_law_487 : decode cL_law 487 = .ok (.lcmp, 1) := by decide +kernel
theorem dL_law_488 : decode cL_law 488 = .ok (.ifCond .eq 5, 3) := by decide +kernel
theorem dL_law_491 : decode cL_law 491 = .ok (.iconst 0, 1) := by decide +kernel
theorem dL_law_492 : decode cL_law 492 = .ok (.ireturn, 1) := by decide +kernel
theorem dL_law_493 : decode cL_law 493 = .ok (.goto 592, 3) := by decide +kernel
theorem dL_law_496 : decode cL_law 496 = .ok (.aload_n 1, 1) := by decide +kernel
theorem dL_law_497 : decode cL_law 497 = .ok (.aload_n 0, 1) := by decide +kernel
theorem dL_law_498 : decode cL_law 498 = .ok (.iload 4, 2) := by decide +kernel
theorem dL_law_500 : decode cL_law 500 = .ok (.iconst 1, 1) := by decide +kernel
theorem dL_law_501 : decode cL_law 501 = .ok (.iadd, 1) := by decide +kernel
theorem dL_law_502 : decode cL_law 502 = .ok (.iaload, 1) := by decide +kernel
theorem dL_law_503 : decode cL_law 503 = .ok (.aload_n 0, 1) := by decide +kernel
theorem dL_law_504 : decode cL_law 504 = .ok (.iload 4, 2) := by decide +kernel
theorem dL_law_506 : decode cL_law 506 = .ok (.iconst 2, 1) := by decide +kernel
theorem dL_law_507 : decode cL_law 507 = .ok (.iadd, 1) := by decide +kernel
theorem dL_law_508 : decode cL_law 508 = .ok (.iaload, 1) := by decide +kernel
theorem dL_law_509 : decode cL_law 509 = .ok (.aload_n 3, 1) := by decide +kernel
theorem dL_law_510 : decode cL_law 510 = .ok (.invokestatic 91, 3) := by decide +kernel
theorem dL_law_513 : decode cL_law 513 = .ok (.istore 5, 2) := by decide +kernel
theorem dL_law_515 : decode cL_law 515 = .ok (.aload_n 2, 1) := by decide +kernel
theorem dL_law_516 : decode cL_law 516 = .ok (.aload_n 0, 1) := by decide +kernel
theorem dL_law_517 : decode cL_law 517 = .ok (.iload 4, 2) := by decide +kernel
theorem dL_law_519 : decode cL_law 519 = .ok (.iconst 1, 1) := by decide +kernel
theorem dL_law_520 : decode cL_law 520 = .ok (.iadd, 1) := by decide +kernel
theorem dL_law_521 : decode cL_law 521 = .ok (.iaload, 1) := by decide +kernel
theorem dL_law_522 : decode cL_law 522 = .ok (.aload_n 0, 1) := by decide +kernel
theorem dL_law_523 : decode cL_law 523 = .ok (.iload 4, 2) := by decide +kernel
theorem dL_law_525 : decode cL_law 525 = .ok (.iconst 2, 1) := by decide +kernel
theorem dL_law_526 : decode cL_law 526 = .ok (.iadd, 1) := by decide +kernel
theorem dL_law_527 : decode cL_law 527 = .ok (.iaload, 1) := by decide +kernel
theorem dL_law_528 : decode cL_law 528 = .ok (.invokevirtual 93, 3) := by decide +kernel
theorem dL_law_531 : decode cL_law 531 = .ok (.istore 6, 2) := by decide +kernel
theorem dL_law_533 : decode cL_law 533 = .ok (.aload_n 2, 1) := by decide +kernel
theorem dL_law_534 : decode cL_law 534 = .ok (.invokevirtual 71, 3) := by decide +kernel
theorem dL_law_537 : decode cL_law 537 = .ok (.iload 5, 2) := by decide +kernel
theorem dL_law_539 : decode cL_law 539 = .ok (.if_icmp .eq 5, 3) := by decide +kernel
theorem dL_law_542 : decode cL_law 542 = .ok (.iconst 0, 1) := by decide +kernel
theorem dL_law_543 : decode cL_law 543 = .ok (.ireturn, 1) := by decide +kernel
theorem dL_law_544 : decode cL_law 544 = .ok (.iload 5, 2) := by decide +kernel
theorem dL_law_546 : decode cL_law 546 = .ok (.ifCond .ne 15, 3) := by decide +kernel
theorem dL_law_549 : decode cL_law 549 = .ok (.aload_n 3, 1) := by decide +kernel
theorem dL_law_550 : decode cL_law 550 = .ok (.iconst 0, 1) := by decide +kernel
theorem dL_law_551 : decode cL_law 551 = .ok (.laload, 1) := by decide +kernel
theorem dL_law_552 : decode cL_law 552 = .ok (.iload 6, 2) := by decide +kernel
theorem dL_law_554 : decode cL_law 554 = .ok (.i2l, 1) := by decide +kernel
theorem dL_law_555 : decode cL_law 555 = .ok (.lcmp, 1) := by decide +kernel
theorem dL_law_556 : decode cL_law 556 = .ok (.ifCond .eq 5, 3) := by decide +kernel
theorem dL_law_559 : decode cL_law 559 = .ok (.iconst 0, 1) := by decide +kernel
theorem dL_law_560 : decode cL_law 560 = .ok (.ireturn, 1) := by decide +kernel
theorem dL_law_561 : decode cL_law 561 = .ok (.goto 524, 3) := by decide +kernel
theorem dL_law_564 : decode cL_law 564 = .ok (.aload_n 1, 1) := by decide +kernel
theorem dL_law_565 : decode cL_law 565 = .ok (.aload_n 0, 1) := by decide +kernel
theorem dL_law_566 : decode cL_law 566 = .ok (.iload 4, 2) := by decide +kernel
theorem dL_law_568 : decode cL_law 568 = .ok (.iconst 1, 1) := by decide +kernel
theorem dL_law_569 : decode cL_law 569 = .ok (.iadd, 1) := by decide +kernel
theorem dL_law_570 : decode cL_law 570 = .ok (.iaload, 1) := by decide +kernel
theorem dL_law_571 : decode cL_law 571 = .ok (.aload_n 0, 1) := by decide +kernel
theorem dL_law_572 : decode cL_law 572 = .ok (.iload 4, 2) := by decide +kernel
theorem dL_law_574 : decode cL_law 574 = .ok (.iconst 2, 1) := by decide +kernel
theorem dL_law_575 : decode cL_law 575 = .ok (.iadd, 1) := by decide +kernel
theorem dL_law_576 : decode cL_law 576 = .ok (.iaload, 1) := by decide +kernel
theorem dL_law_577 : decode cL_law 577 = .ok (.aload_n 3, 1) := by decide +kernel
theorem dL_law_578 : decode cL_law 578 = .ok (.invokestatic 94, 3) := by decide +kernel
theorem dL_law_581 : decode cL_law 581 = .ok (.istore 5, 2) := by decide +kernel
theorem dL_law_583 : decode cL_law 583 = .ok (.aload_n 2, 1) := by decide +kernel
theorem dL_law_584 : decode cL_law 584 = .ok (.aload_n 0, 1) := by decide +kernel
theorem dL_law_585 : decode cL_law 585 = .ok (.iload 4, 2) := by decide +kernel
theorem dL_law_587 : decode cL_law 587 = .ok (.iconst 1, 1) := by decide +kernel
theorem dL_law_588 : decode cL_law 588 = .ok (.iadd, 1) := by decide +kernel
theorem dL_law_589 : decode cL_law 589 = .ok (.iaload, 1) := by decide +kernel
theorem dL_law_590 : decode cL_law 590 = .ok (.aload_n 0, 1) := by decide +kernel
theorem dL_law_591 : decode cL_law 591 = .ok (.iload 4, 2) := by decide +kernel
theorem dL_law_593 : decode cL_law 593 = .ok (.iconst 2, 1) := by decide +kernel
theorem dL_law_594 : decode cL_law 594 = .ok (.iadd, 1) := by decide +kernel
theorem dL_law_595 : decode cL_law 595 = .ok (.iaload, 1) := by decide +kernel
theorem dL_law_596 : decode cL_law 596 = .ok (.invokevirtual 96, 3) := by decide +kernel
theorem dL_law_599 : decode cL_law 599 = .ok (.istore 6, 2) := by decide +kernel
theorem dL_law_601 : decode cL_law 601 = .ok (.aload_n 2, 1) := by decide +kernel
theorem dL_law_602 : decode cL_law 602 = .ok (.invokevirtual 71, 3) := by decide +kernel
theorem dL_law_605 : decode cL_law 605 = .ok (.iload 5, 2) := by decide +kernel
theorem dL_law_607 : decode cL_law 607 = .ok (.if_icmp .eq 5, 3) := by decide +kernel
theorem dL_law_610 : decode cL_law 610 = .ok (.iconst 0, 1) := by decide +kernel
theorem dL_law_611 : decode cL_law 611 = .ok (.ireturn, 1) := by decide +kernel
theorem dL_law_612 : decode cL_law 612 = .ok (.iload 5, 2) := by decide +kernel
theorem dL_law_614 : decode cL_law 614 = .ok (.ifCond .ne 15, 3) := by decide +kernel
theorem dL_law_617 : decode cL_law 617 = .ok (.aload_n 3, 1) := by decide +kernel
theorem dL_law_618 : decode cL_law 618 = .ok (.iconst 0, 1) := by decide +kernel
theorem dL_law_619 : decode cL_law 619 = .ok (.laload, 1) := by decide +kernel
theorem dL_law_620 : decode cL_law 620 = .ok (.iload 6, 2) := by decide +kernel
theorem dL_law_622 : decode cL_law 622 = .ok (.i2l, 1) := by decide +kernel
theorem dL_law_623 : decode cL_law 623 = .ok (.lcmp, 1) := by decide +kernel
theorem dL_law_624 : decode cL_law 624 = .ok (.ifCond .eq 5, 3) := by decide +kernel
theorem dL_law_627 : decode cL_law 627 = .ok (.iconst 0, 1) := by decide +kernel
theorem dL_law_628 : decode cL_law 628 = .ok (.ireturn, 1) := by decide +kernel
theorem dL_law_629 : decode cL_law 629 = .ok (.goto 456, 3) := by decide +kernel
theorem dL_law_632 : decode cL_law 632 = .ok (.aload_n 1, 1) := by decide +kernel
theorem dL_law_633 : decode cL_law 633 = .ok (.aload_n 0, 1) := by decide +kernel
theorem dL_law_634 : decode cL_law 634 = .ok (.iload 4, 2) := by decide +kernel
theorem dL_law_636 : decode cL_law 636 = .ok (.iconst 1, 1) := by decide +kernel
theorem dL_law_637 : decode cL_law 637 = .ok (.iadd, 1) := by decide +kernel
theorem dL_law_638 : decode cL_law 638 = .ok (.iaload, 1) := by decide +kernel
theorem dL_law_639 : decode cL_law 639 = .ok (.aload_n 0, 1) := by decide +kernel
theorem dL_law_640 : decode cL_law 640 = .ok (.iload 4, 2) := by decide +kernel
theorem dL_law_642 : decode cL_law 642 = .ok (.iconst 2, 1) := by decide +kernel
theorem dL_law_643 : decode cL_law 643 = .ok (.iadd, 1) := by decide +kernel
theorem dL_law_644 : decode cL_law 644 = .ok (.iaload, 1) := by decide +kernel
theorem dL_law_645 : decode cL_law 645 = .ok (.aload_n 3, 1) := by decide +kernel
theorem dL_law_646 : decode cL_law 646 = .ok (.invokestatic 97, 3) := by decide +kernel
theorem dL_law_649 : decode cL_law 649 = .ok (.istore 5, 2) := by decide +kernel
theorem dL_law_651 : decode cL_law 651 = .ok (.aload_n 2, 1) := by decide +kernel
theorem dL_law_652 : decode cL_law 652 = .ok (.aload_n 0, 1) := by decide +kernel
theorem dL_law_653 : decode cL_law 653 = .ok (.iload 4, 2) := by decide +kernel
theorem dL_law_655 : decode cL_law 655 = .ok (.iconst 1, 1) := by decide +kernel
theorem dL_law_656 : decode cL_law 656 = .ok (.iadd, 1) := by decide +kernel
theorem dL_law_657 : decode cL_law 657 = .ok (.iaload, 1) := by decide +kernel
theorem dL_law_658 : decode cL_law 658 = .ok (.aload_n 0, 1) := by decide +kernel
theorem dL_law_659 : decode cL_law 659 = .ok (.iload 4, 2) := by decide +kernel
theorem dL_law_661 : decode cL_law 661 = .ok (.iconst 2, 1) := by decide +kernel
theorem dL_law_662 : decode cL_law 662 = .ok (.iadd, 1) := by decide +kernel
theorem dL_law_663 : decode cL_law 663 = .ok (.iaload, 1) := by decide +kernel
theorem dL_law_664 : decode cL_law 664 = .ok (.invokevirtual 99, 3) := by decide +kernel
theorem dL_law_667 : decode cL_law 667 = .ok (.istore 6, 2) := by decide +kernel
theorem dL_law_669 : decode cL_law 669 = .ok (.aload_n 2, 1) := by decide +kernel
theorem dL_law_670 : decode cL_law 670 = .ok (.invokevirtual 71, 3) := by decide +kernel
theorem dL_law_673 : decode cL_law 673 = .ok (.iload 5, 2) := by decide +kernel
theorem dL_law_675 : decode cL_law 675 = .ok (.if_icmp .eq 5, 3) := by decide +kernel
theorem dL_law_678 : decode cL_law 678 = .ok (.iconst 0, 1) := by decide +kernel
theorem dL_law_679 : decode cL_law 679 = .ok (.ireturn, 1) := by decide +kernel
theorem dL_law_680 : decode cL_law 680 = .ok (.iload 5, 2) := by decide +kernel
theorem dL_law_682 : decode cL_law 682 = .ok (.ifCond .ne 15, 3) := by decide +kernel
theorem dL_law_685 : decode cL_law 685 = .ok (.aload_n 3, 1) := by decide +kernel
theorem dL_law_686 : decode cL_law 686 = .ok (.iconst 0, 1) := by decide +kernel
theorem dL_law_687 : decode cL_law 687 = .ok (.laload, 1) := by decide +kernel
theorem dL_law_688 : decode cL_law 688 = .ok (.iload 6, 2) := by decide +kernel
theorem dL_law_690 : decode cL_law 690 = .ok (.i2l, 1) := by decide +kernel
theorem dL_law_691 : decode cL_law 691 = .ok (.lcmp, 1) := by decide +kernel
theorem dL_law_692 : decode cL_law 692 = .ok (.ifCond .eq 5, 3) := by decide +kernel
theorem dL_law_695 : decode cL_law 695 = .ok (.iconst 0, 1) := by decide +kernel
theorem dL_law_696 : decode cL_law 696 = .ok (.ireturn, 1) := by decide +kernel
theorem dL_law_697 : decode cL_law 697 = .ok (.goto 388, 3) := by decide +kernel
theorem dL_law_700 : decode cL_law 700 = .ok (.aload_n 1, 1) := by decide +kernel
theorem dL_law_701 : decode cL_law 701 = .ok (.aload_n 0, 1) := by decide +kernel
theorem dL_law_702 : decode cL_law 702 = .ok (.iload 4, 2) := by decide +kernel
theorem dL_law_704 : decode cL_law 704 = .ok (.iconst 1, 1) := by decide +kernel
theorem dL_law_705 : decode cL_law 705 = .ok (.iadd, 1) := by decide +kernel
theorem dL_law_706 : decode cL_law 706 = .ok (.iaload, 1) := by decide +kernel
theorem dL_law_707 : decode cL_law 707 = .ok (.aload_n 3, 1) := by decide +kernel
theorem dL_law_708 : decode cL_law 708 = .ok (.invokestatic 100, 3) := by decide +kernel
theorem dL_law_711 : decode cL_law 711 = .ok (.istore 5, 2) := by decide +kernel
theorem dL_law_713 : decode cL_law 713 = .ok (.aload_n 2, 1) := by decide +kernel
theorem dL_law_714 : decode cL_law 714 = .ok (.aload_n 0, 1) := by decide +kernel
theorem dL_law_715 : decode cL_law 715 = .ok (.iload 4, 2) := by decide +kernel
theorem dL_law_717 : decode cL_law 717 = .ok (.iconst 1, 1) := by decide +kernel
theorem dL_law_718 : decode cL_law 718 = .ok (.iadd, 1) := by decide +kernel
theorem dL_law_719 : decode cL_law 719 = .ok (.iaload, 1) := by decide +kernel
theorem dL_law_720 : decode cL_law 720 = .ok (.invokevirtual 103, 3) := by decide +kernel
theorem dL_law_723 : decode cL_law 723 = .ok (.istore 6, 2) := by decide +kernel
theorem dL_law_725 : decode cL_law 725 = .ok (.aload_n 2, 1) := by decide +kernel
theorem dL_law_726 : decode cL_law 726 = .ok (.invokevirtual 71, 3) := by decide +kernel
theorem dL_law_729 : decode cL_law 729 = .ok (.iload 5, 2) := by decide +kernel
theorem dL_law_731 : decode cL_law 731 = .ok (.if_icmp .eq 5, 3) := by decide +kernel
theorem dL_law_734 : decode cL_law 734 = .ok (.iconst 0, 1) := by decide +kernel
theorem dL_law_735 : decode cL_law 735 = .ok (.ireturn, 1) := by decide +kernel
theorem dL_law_736 : decode cL_law 736 = .ok (.iload 5, 2) := by decide +kernel
theorem dL_law_738 : decode cL_law 738 = .ok (.ifCond .ne 15, 3) := by decide +kernel
theorem dL_law_741 : decode cL_law 741 = .ok (.aload_n 3, 1) := by decide +kernel
theorem dL_law_742 : decode cL_law 742 = .ok (.iconst 0, 1) := by decide +kernel
theorem dL_law_743 : decode cL_law 743 = .ok (.laload, 1) := by decide +kernel
theorem dL_law_744 : decode cL_law 744 = .ok (.iload 6, 2) := by decide +kernel
theorem dL_law_746 : decode cL_law 746 = .ok (.i2l, 1) := by decide +kernel
theorem dL_law_747 : decode cL_law 747 = .ok (.lcmp, 1) := by decide +kernel
theorem dL_law_748 : decode cL_law 748 = .ok (.ifCond .eq 5, 3) := by decide +kernel
theorem dL_law_751 : decode cL_law 751 = .ok (.iconst 0, 1) := by decide +kernel
theorem dL_law_752 : decode cL_law 752 = .ok (.ireturn, 1) := by decide +kernel
theorem dL_law_753 : decode cL_law 753 = .ok (.goto 332, 3) := by decide +kernel
theorem dL_law_756 : decode cL_law 756 = .ok (.aload_n 1, 1) := by decide +kernel
theorem dL_law_757 : decode cL_law 757 = .ok (.invokevirtual 104, 3) := by decide +kernel
theorem dL_law_760 : decode cL_law 760 = .ok (.aload_n 2, 1) := by decide +kernel
theorem dL_law_761 : decode cL_law 761 = .ok (.invokevirtual 107, 3) := by decide +kernel
theorem dL_law_764 : decode cL_law 764 = .ok (.if_icmp .eq 321, 3) := by decide +kernel
theorem dL_law_767 : decode cL_law 767 = .ok (.iconst 0, 1) := by decide +kernel
theorem dL_law_768 : decode cL_law 768 = .ok (.ireturn, 1) := by decide +kernel
theorem dL_law_769 : decode cL_law 769 = .ok (.aload_n 1, 1) := by decide +kernel
theorem dL_law_770 : decode cL_law 770 = .ok (.aload_n 0, 1) := by decide +kernel
theorem dL_law_771 : decode cL_law 771 = .ok (.iload 4, 2) := by decide +kernel
theorem dL_law_773 : decode cL_law 773 = .ok (.iconst 1, 1) := by decide +kernel
theorem dL_law_774 : decode cL_law 774 = .ok (.iadd, 1) := by decide +kernel
theorem dL_law_775 : decode cL_law 775 = .ok (.iaload, 1) := by decide +kernel
theorem dL_law_776 : decode cL_law 776 = .ok (.aload_n 3, 1) := by decide +kernel
theorem dL_law_777 : decode cL_law 777 = .ok (.invokestatic 108, 3) := by decide +kernel
theorem dL_law_780 : decode cL_law 780 = .ok (.istore 5, 2) := by decide +kernel
theorem dL_law_782 : decode cL_law 782 = .ok (.aload_n 2, 1) := by decide +kernel
theorem dL_law_783 : decode cL_law 783 = .ok (.aload_n 0, 1) := by decide +kernel
theorem dL_law_784 : decode cL_law 784 = .ok (.iload 4, 2) := by decide +kernel
theorem dL_law_786 : decode cL_law 786 = .ok (.iconst 1, 1) := by decide +kernel
theorem dL_law_787 : decode cL_law 787 = .ok (.iadd, 1) := by decide +kernel
theorem dL_law_788 : decode cL_law 788 = .ok (.iaload, 1) := by decide +kernel
theorem dL_law_789 : decode cL_law 789 = .ok (.invokevirtual 110, 3) := by decide +kernel
theorem dL_law_792 : decode cL_law 792 = .ok (.istore 6, 2) := by decide +kernel
theorem dL_law_794 : decode cL_law 794 = .ok (.aload_n 2, 1) := by decide +kernel
theorem dL_law_795 : decode cL_law 795 = .ok (.invokevirtual 71, 3) := by decide +kernel
theorem dL_law_798 : decode cL_law 798 = .ok (.iload 5, 2) := by decide +kernel
theorem dL_law_800 : decode cL_law 800 = .ok (.if_icmp .eq 5, 3) := by decide +kernel
theorem dL_law_803 : decode cL_law 803 = .ok (.iconst 0, 1) := by decide +kernel
theorem dL_law_804 : decode cL_law 804 = .ok (.ireturn, 1) := by decide +kernel
theorem dL_law_805 : decode cL_law 805 = .ok (.iload 5, 2) := by decide +kernel
theorem dL_law_807 : decode cL_law 807 = .ok (.ifCond .ne 15, 3) := by decide +kernel
theorem dL_law_810 : decode cL_law 810 = .ok (.aload_n 3, 1) := by decide +kernel
theorem dL_law_811 : decode cL_law 811 = .ok (.iconst 0, 1) := by decide +kernel
theorem dL_law_812 : decode cL_law 812 = .ok (.laload, 1) := by decide +kernel
theorem dL_law_813 : decode cL_law 813 = .ok (.iload 6, 2) := by decide +kernel
theorem dL_law_815 : decode cL_law 815 = .ok (.i2l, 1) := by decide +kernel
theorem dL_law_816 : decode cL_law 816 = .ok (.lcmp, 1) := by decide +kernel
theorem dL_law_817 : decode cL_law 817 = .ok (.ifCond .eq 5, 3) := by decide +kernel
theorem dL_law_820 : decode cL_law 820 = .ok (.iconst 0, 1) := by decide +kernel
theorem dL_law_821 : decode cL_law 821 = .ok (.ireturn, 1) := by decide +kernel
theorem dL_law_822 : decode cL_law 822 = .ok (.goto 263, 3) := by decide +kernel
theorem dL_law_825 : decode cL_law 825 = .ok (.aload_n 1, 1) := by decide +kernel
theorem dL_law_826 : decode cL_law 826 = .ok (.aload_n 0, 1) := by decide +kernel
theorem dL_law_827 : decode cL_law 827 = .ok (.iload 4, 2) := by decide +kernel
theorem dL_law_829 : decode cL_law 829 = .ok (.iconst 1, 1) := by decide +kernel
theorem dL_law_830 : decode cL_law 830 = .ok (.iadd, 1) := by decide +kernel
theorem dL_law_831 : decode cL_law 831 = .ok (.iaload, 1) := by decide +kernel
theorem dL_law_832 : decode cL_law 832 = .ok (.aload_n 3, 1) := by decide +kernel
theorem dL_law_833 : decode cL_law 833 = .ok (.invokestatic 111, 3) := by decide +kernel
theorem dL_law_836 : decode cL_law 836 = .ok (.istore 5, 2) := by decide +kernel
theorem dL_law_838 : decode cL_law 838 = .ok (.aload_n 2, 1) := by decide +kernel
theorem dL_law_839 : decode cL_law 839 = .ok (.aload_n 0, 1) := by decide +kernel
theorem dL_law_840 : decode cL_law 840 = .ok (.iload 4, 2) := by decide +kernel
theorem dL_law_842 : decode cL_law 842 = .ok (.iconst 1, 1) := by decide +kernel
theorem dL_law_843 : decode cL_law 843 = .ok (.iadd, 1) := by decide +kernel
theorem dL_law_844 : decode cL_law 844 = .ok (.iaload, 1) := by decide +kernel
theorem dL_law_845 : decode cL_law 845 = .ok (.invokevirtual 113, 3) := by decide +kernel
theorem dL_law_848 : decode cL_law 848 = .ok (.istore 6, 2) := by decide +kernel
theorem dL_law_850 : decode cL_law 850 = .ok (.aload_n 2, 1) := by decide +kernel
theorem dL_law_851 : decode cL_law 851 = .ok (.invokevirtual 71, 3) := by decide +kernel
theorem dL_law_854 : decode cL_law 854 = .ok (.iload 5, 2) := by decide +kernel
theorem dL_law_856 : decode cL_law 856 = .ok (.if_icmp .eq 5, 3) := by decide +kernel
theorem dL_law_859 : decode cL_law 859 = .ok (.iconst 0, 1) := by decide +kernel
theorem dL_law_860 : decode cL_law 860 = .ok (.ireturn, 1) := by decide +kernel
theorem dL_law_861 : decode cL_law 861 = .ok (.iload 5, 2) := by decide +kernel
theorem dL_law_863 : decode cL_law 863 = .ok (.ifCond .ne 15, 3) := by decide +kernel
theorem dL_law_866 : decode cL_law 866 = .ok (.aload_n 3, 1) := by decide +kernel
theorem dL_law_867 : decode cL_law 867 = .ok (.iconst 0, 1) := by decide +kernel
theorem dL_law_868 : decode cL_law 868 = .ok (.laload, 1) := by decide +kernel
theorem dL_law_869 : decode cL_law 869 = .ok (.iload 6, 2) := by decide +kernel
theorem dL_law_871 : decode cL_law 871 = .ok (.i2l, 1) := by decide +kernel
theorem dL_law_872 : decode cL_law 872 = .ok (.lcmp, 1) := by decide +kernel
theorem dL_law_873 : decode cL_law 873 = .ok (.ifCond .eq 5, 3) := by decide +kernel
theorem dL_law_876 : decode cL_law 876 = .ok (.iconst 0, 1) := by decide +kernel
theorem dL_law_877 : decode cL_law 877 = .ok (.ireturn, 1) := by decide +kernel
theorem dL_law_878 : decode cL_law 878 = .ok (.goto 207, 3) := by decide +kernel
theorem dL_law_881 : decode cL_law 881 = .ok (.aload_n 1, 1) := by decide +kernel
theorem dL_law_882 : decode cL_law 882 = .ok (.aload_n 0, 1) := by decide +kernel
theorem dL_law_883 : decode cL_law 883 = .ok (.iload 4, 2) := by decide +kernel
theorem dL_law_885 : decode cL_law 885 = .ok (.iconst 1, 1) := by decide +kernel
theorem dL_law_886 : decode cL_law 886 = .ok (.iadd, 1) := by decide +kernel
theorem dL_law_887 : decode cL_law 887 = .ok (.iaload, 1) := by decide +kernel
theorem dL_law_888 : decode cL_law 888 = .ok (.aload_n 0, 1) := by decide +kernel
theorem dL_law_889 : decode cL_law 889 = .ok (.iload 4, 2) := by decide +kernel
theorem dL_law_891 : decode cL_law 891 = .ok (.iconst 2, 1) := by decide +kernel
theorem dL_law_892 : decode cL_law 892 = .ok (.iadd, 1) := by decide +kernel
theorem dL_law_893 : decode cL_law 893 = .ok (.iaload, 1) := by decide +kernel
theorem dL_law_894 : decode cL_law 894 = .ok (.aload_n 3, 1) := by decide +kernel
theorem dL_law_895 : decode cL_law 895 = .ok (.invokestatic 114, 3) := by decide +kernel
theorem dL_law_898 : decode cL_law 898 = .ok (.istore 5, 2) := by decide +kernel
theorem dL_law_900 : decode cL_law 900 = .ok (.aload_n 2, 1) := by decide +kernel
theorem dL_law_901 : decode cL_law 901 = .ok (.aload_n 0, 1) := by decide +kernel
theorem dL_law_902 : decode cL_law 902 = .ok (.iload 4, 2) := by decide +kernel
theorem dL_law_904 : decode cL_law 904 = .ok (.iconst 1, 1) := by decide +kernel
theorem dL_law_905 : decode cL_law 905 = .ok (.iadd, 1) := by decide +kernel
theorem dL_law_906 : decode cL_law 906 = .ok (.iaload, 1) := by decide +kernel
theorem dL_law_907 : decode cL_law 907 = .ok (.aload_n 0, 1) := by decide +kernel
theorem dL_law_908 : decode cL_law 908 = .ok (.iload 4, 2) := by decide +kernel
theorem dL_law_910 : decode cL_law 910 = .ok (.iconst 2, 1) := by decide +kernel
theorem dL_law_911 : decode cL_law 911 = .ok (.iadd, 1) := by decide +kernel
theorem dL_law_912 : decode cL_law 912 = .ok (.iaload, 1) := by decide +kernel
theorem dL_law_913 : decode cL_law 913 = .ok (.invokevirtual 116, 3) := by decide +kernel
theorem dL_law_916 : decode cL_law 916 = .ok (.istore 6, 2) := by decide +kernel
theorem dL_law_918 : decode cL_law 918 = .ok (.aload_n 2, 1) := by decide +kernel
theorem dL_law_919 : decode cL_law 919 = .ok (.invokevirtual 71, 3) := by decide +kernel
theorem dL_law_922 : decode cL_law 922 = .ok (.iload 5, 2) := by decide +kernel
theorem dL_law_924 : decode cL_law 924 = .ok (.if_icmp .eq 5, 3) := by decide +kernel
theorem dL_law_927 : decode cL_law 927 = .ok (.iconst 0, 1) := by decide +kernel
theorem dL_law_928 : decode cL_law 928 = .ok (.ireturn, 1) := by decide +kernel
theorem dL_law_929 : decode cL_law 929 = .ok (.iload 5, 2) := by decide +kernel
theorem dL_law_931 : decode cL_law 931 = .ok (.ifCond .ne 15, 3) := by decide +kernel
theorem dL_law_934 : decode cL_law 934 = .ok (.aload_n 3, 1) := by decide +kernel
theorem dL_law_935 : decode cL_law 935 = .ok (.iconst 0, 1) := by decide +kernel
theorem dL_law_936 : decode cL_law 936 = .ok (.laload, 1) := by decide +kernel
theorem dL_law_937 : decode cL_law 937 = .ok (.iload 6, 2) := by decide +kernel
theorem dL_law_939 : decode cL_law 939 = .ok (.i2l, 1) := by decide +kernel
theorem dL_law_940 : decode cL_law 940 = .ok (.lcmp, 1) := by decide +kernel
theorem dL_law_941 : decode cL_law 941 = .ok (.ifCond .eq 5, 3) := by decide +kernel
theorem dL_law_944 : decode cL_law 944 = .ok (.iconst 0, 1) := by decide +kernel
theorem dL_law_945 : decode cL_law 945 = .ok (.ireturn, 1) := by decide +kernel
theorem dL_law_946 : decode cL_law 946 = .ok (.goto 139, 3) := by decide +kernel
theorem dL_law_949 : decode cL_law 949 = .ok (.aload_n 1, 1) := by decide +kernel
theorem dL_law_950 : decode cL_law 950 = .ok (.invokevirtual 117, 3) := by decide +kernel
theorem dL_law_953 : decode cL_law 953 = .ok (.aload_n 2, 1) := by decide +kernel
theorem dL_law_954 : decode cL_law 954 = .ok (.invokevirtual 120, 3) := by decide +kernel
theorem dL_law_957 : decode cL_law 957 = .ok (.if_icmp .eq 128, 3) := by decide +kernel
theorem dL_law_960 : decode cL_law 960 = .ok (.iconst 0, 1) := by decide +kernel
theorem dL_law_961 : decode cL_law 961 = .ok (.ireturn, 1) := by decide +kernel
theorem dL_law_962 : decode cL_law 962 = .ok (.aload_n 1, 1) := by decide +kernel
theorem dL_law_963 : decode cL_law 963 = .ok (.aload_n 0, 1) := by decide +kernel
theorem dL_law_964 : decode cL_law 964 = .ok (.iload 4, 2) := by decide +kernel
theorem dL_law_966 : decode cL_law 966 = .ok (.iconst 1, 1) := by decide +kernel
theorem dL_law_967 : decode cL_law 967 = .ok (.iadd, 1) := by decide +kernel
theorem dL_law_968 : decode cL_law 968 = .ok (.iaload, 1) := by decide +kernel
theorem dL_law_969 : decode cL_law 969 = .ok (.aload_n 0, 1) := by decide +kernel
theorem dL_law_970 : decode cL_law 970 = .ok (.iload 4, 2) := by decide +kernel
theorem dL_law_972 : decode cL_law 972 = .ok (.iconst 2, 1) := by decide +kernel
theorem dL_law_973 : decode cL_law 973 = .ok (.iadd, 1) := by decide +kernel
theorem dL_law_974 : decode cL_law 974 = .ok (.iaload, 1) := by decide +kernel
theorem dL_law_975 : decode cL_law 975 = .ok (.aload_n 3, 1) := by decide +kernel
theorem dL_law_976 : decode cL_law 976 = .ok (.invokestatic 121, 3) := by decide +kernel
theorem dL_law_979 : decode cL_law 979 = .ok (.istore 5, 2) := by decide +kernel
theorem dL_law_981 : decode cL_law 981 = .ok (.aload_n 2, 1) := by decide +kernel
theorem dL_law_982 : decode cL_law 982 = .ok (.aload_n 0, 1) := by decide +kernel
theorem dL_law_983 : decode cL_law 983 = .ok (.iload 4, 2) := by decide +kernel
theorem dL_law_985 : decode cL_law 985 = .ok (.iconst 1, 1) := by decide +kernel
theorem dL_law_986 : decode cL_law 986 = .ok (.iadd, 1) := by decide +kernel
theorem dL_law_987 : decode cL_law 987 = .ok (.iaload, 1) := by decide +kernel
theorem dL_law_988 : decode cL_law 988 = .ok (.aload_n 0, 1) := by decide +kernel
theorem dL_law_989 : decode cL_law 989 = .ok (.iload 4, 2) := by decide +kernel
theorem dL_law_991 : decode cL_law 991 = .ok (.iconst 2, 1) := by decide +kernel
theorem dL_law_992 : decode cL_law 992 = .ok (.iadd, 1) := by decide +kernel
theorem dL_law_993 : decode cL_law 993 = .ok (.iaload, 1) := by decide +kernel
theorem dL_law_994 : decode cL_law 994 = .ok (.invokevirtual 123, 3) := by decide +kernel
theorem dL_law_997 : decode cL_law 997 = .ok (.istore 6, 2) := by decide +kernel
theorem dL_law_999 : decode cL_law 999 = .ok (.aload_n 2, 1) := by decide +kernel
theorem dL_law_1000 : decode cL_law 1000 = .ok (.invokevirtual 71, 3) := by decide +kernel
theorem dL_law_1003 : decode cL_law 1003 = .ok (.iload 5, 2) := by decide +kernel
theorem dL_law_1005 : decode cL_law 1005 = .ok (.if_icmp .eq 5, 3) := by decide +kernel
theorem dL_law_1008 : decode cL_law 1008 = .ok (.iconst 0, 1) := by decide +kernel
theorem dL_law_1009 : decode cL_law 1009 = .ok (.ireturn, 1) := by decide +kernel
theorem dL_law_1010 : decode cL_law 1010 = .ok (.iload 5, 2) := by decide +kernel
theorem dL_law_1012 : decode cL_law 1012 = .ok (.ifCond .ne 15, 3) := by decide +kernel
theorem dL_law_1015 : decode cL_law 1015 = .ok (.aload_n 3, 1) := by decide +kernel
theorem dL_law_1016 : decode cL_law 1016 = .ok (.iconst 0, 1) := by decide +kernel
theorem dL_law_1017 : decode cL_law 1017 = .ok (.laload, 1) := by decide +kernel
theorem dL_law_1018 : decode cL_law 1018 = .ok (.iload 6, 2) := by decide +kernel
theorem dL_law_1020 : decode cL_law 1020 = .ok (.i2l, 1) := by decide +kernel
theorem dL_law_1021 : decode cL_law 1021 = .ok (.lcmp, 1) := by decide +kernel
theorem dL_law_1022 : decode cL_law 1022 = .ok (.ifCond .eq 5, 3) := by decide +kernel
theorem dL_law_1025 : decode cL_law 1025 = .ok (.iconst 0, 1) := by decide +kernel
theorem dL_law_1026 : decode cL_law 1026 = .ok (.ireturn, 1) := by decide +kernel
theorem dL_law_1027 : decode cL_law 1027 = .ok (.goto 58, 3) := by decide +kernel
theorem dL_law_1030 : decode cL_law 1030 = .ok (.aload_n 1, 1) := by decide +kernel
theorem dL_law_1031 : decode cL_law 1031 = .ok (.invokevirtual 124, 3) := by decide +kernel
theorem dL_law_1034 : decode cL_law 1034 = .ok (.dstore 5, 2) := by decide +kernel
theorem dL_law_1036 : decode cL_law 1036 = .ok (.aload_n 2, 1) := by decide +kernel
theorem dL_law_1037 : decode cL_law 1037 = .ok (.invokevirtual 128, 3) := by decide +kernel
theorem dL_law_1040 : decode cL_law 1040 = .ok (.dstore 7, 2) := by decide +kernel
theorem dL_law_1042 : decode cL_law 1042 = .ok (.dload 5, 2) := by decide +kernel
theorem dL_law_1044 : decode cL_law 1044 = .ok (.dload 7, 2) := by decide +kernel
theorem dL_law_1046 : decode cL_law 1046 = .ok (.dcmp .l, 1) := by decide +kernel
theorem dL_law_1047 : decode cL_law 1047 = .ok (.ifCond .eq 21, 3) := by decide +kernel
theorem dL_law_1050 : decode cL_law 1050 = .ok (.dload 5, 2) := by decide +kernel
theorem dL_law_1052 : decode cL_law 1052 = .ok (.dload 5, 2) := by decide +kernel
theorem dL_law_1054 : decode cL_law 1054 = .ok (.dcmp .l, 1) := by decide +kernel
theorem dL_law_1055 : decode cL_law 1055 = .ok (.ifCond .eq 11, 3) := by decide +kernel
theorem dL_law_1058 : decode cL_law 1058 = .ok (.dload 7, 2) := by decide +kernel
theorem dL_law_1060 : decode cL_law 1060 = .ok (.dload 7, 2) := by decide +kernel
theorem dL_law_1062 : decode cL_law 1062 = .ok (.dcmp .l, 1) := by decide +kernel
theorem dL_law_1063 : decode cL_law 1063 = .ok (.ifCond .ne 5, 3) := by decide +kernel
theorem dL_law_1066 : decode cL_law 1066 = .ok (.iconst 0, 1) := by decide +kernel
theorem dL_law_1067 : decode cL_law 1067 = .ok (.ireturn, 1) := by decide +kernel
theorem dL_law_1068 : decode cL_law 1068 = .ok (.goto 17, 3) := by decide +kernel
theorem dL_law_1071 : decode cL_law 1071 = .ok (.aload_n 1, 1) := by decide +kernel
theorem dL_law_1072 : decode cL_law 1072 = .ok (.invokevirtual 129, 3) := by decide +kernel
theorem dL_law_1075 : decode cL_law 1075 = .ok (.aload_n 2, 1) := by decide +kernel
theorem dL_law_1076 : decode cL_law 1076 = .ok (.invokevirtual 133, 3) := by decide +kernel
theorem dL_law_1079 : decode cL_law 1079 = .ok (.lcmp, 1) := by decide +kernel
theorem dL_law_1080 : decode cL_law 1080 = .ok (.ifCond .eq 5, 3) := by decide +kernel
theorem dL_law_1083 : decode cL_law 1083 = .ok (.iconst 0, 1) := by decide +kernel
theorem dL_law_1084 : decode cL_law 1084 = .ok (.ireturn, 1) := by decide +kernel
theorem dL_law_1085 : decode cL_law 1085 = .ok (.iinc 4 4, 3) := by decide +kernel
theorem dL_law_1088 : decode cL_law 1088 = .ok (.goto (-1065), 3) := by decide +kernel
theorem dL_law_1091 : decode cL_law 1091 = .ok (.iconst 1, 1) := by decide +kernel
theorem dL_law_1092 : decode cL_law 1092 = .ok (.ireturn, 1) := by decide +kernel
end
section
/-! my own layer: contracts with one outcome over the class's and the reference's worlds -/
abbrev TY (cI cC cT cL : ClassId) : List (ClassId × FieldType) := [(cI, .int), (cC, .object RX1), (cT, .object RX2), (cL, .long)]
/-- words of nest mates -/
def NF : List (String × Nat × String × String × String) := [(RX3, 75, RX1, "cold", "I"), (RX0, 119, RX1, "cold", "I"), (RX3, 88, RX1, "cream", "I"), (RX0, 113, RX1, "cream", "I"), (RX3, 96, RX1, "firm", "I"), (RX0, 116, RX1, "firm", "I"), (RX0, 71, RX2, "scoops", "I"), (RX3, 111, RX2, "scoops", "I"), (RX0, 77, RX2, "soft", "I"), (RX0, 74, RX2, "sold", "I"), (RX3, 31, RX0, "stock", "[I"), (RX3, 48, RX0, "heats", "[I"), (RX3, 168, RX0, "churns", "[LColdCreamery$Churn;"), (RX3, 172, RX0, "tubs", "[LColdCreamery$Tub;"), (RX3, 51, RX0, "churnCount", "I"), (RX3, 60, RX0, "tubCount", "I"), (RX3, 131, RX0, "coins", "I"), (RX3, 159, RX0, "sentAway", "I"), (RX0, 9, RX3, "STOCK_LIMITS", "[I")]
def NM : List (String × Nat × MethodName) := [(RX0, 39, yX1_init), (RX0, 40, yX2_init), (RX0, 97, yX3_iceAfterHour), (RX1, 19, yX3_firmAfterHour), (RX1, 25, yX3_coldAfterHour), (RX0, 122, yX3_firmAfterHour), (RX0, 125, yX3_coldAfterHour)]
abbrev IOOBE : String := "java/lang/IndexOutOfBoundsException"
abbrev IAE : String := "java/lang/IllegalArgumentException"
abbrev ISE : String := "java/lang/IllegalStateException"
def STR : List (Nat × String) := [(21, "what is 0 to 3"), (28, "many is 1 to 300"), (44, "day is 0 to 6"), (46, "heat is 0 to 40"), (57, "there are 4 churns"), (63, "there are 6 tubs"), (176, "there is no such churn"), (180, "ice and salt are 0 to 60"), (73, "there is not so much in the cellar"), (84, "cream is 1 to 20"), (86, "there is not so much cream in the cellar"), (178, "there is no such tub"), (103, "the churn holds no firm cream"), (114, "what is 0 to 2"), (121, "what is 0 to 9"), (182, "hours is 1 to 168"), (141, "what is 2, 6, 7, 8 or 9"), (91, "a churn holds 20 cream at most")]
def NC : List (String × String) := [(IOOBE, IAE), (IOOBE, ISE), (IAE, IOOBE), (IAE, ISE), (ISE, IOOBE), (ISE, IAE)]
def CA : List String := [IOOBE, IAE, ISE]
def DC : List MethodName := [Bundle.initS "java/lang/RuntimeException", Bundle.initS "java/lang/Exception", Bundle.initS Bundle.tN]
abbrev XN : List String := ["java/lang/RuntimeException", "java/lang/Exception"]
def limF (j : Nat) : Int32 := if j = 0 then 900 else 300
def mostF (j : Nat) : Int32 := if j = 0 then 0 else if j = 1 then 900 else 300
/-- what every method may take of the tables and statics: nothing that anybody writes -/
def ST (A : Nat → Prop) (U : State) : Prop :=
  (∀ x ∈ NF, va_Nw (.fieldLinkNest x.1 x.2.1 x.2.2.1 x.2.2.2.1 x.2.2.2.2 RX3) U) ∧ (∀ x ∈ NM, va_Nw (.methodLinkNest x.1 x.2.1 x.2.2 RX3) U) ∧
  (∀ q ∈ STR, ∃ a, vk_R RX3 q.1 q.2 a U) ∧ (∀ q ∈ NC, va_Nc q.1 q.2 U) ∧ (∀ q ∈ CA, va_Nw (.castable q q) U) ∧ (∀ x ∈ DC, va_Nw (.declares x) U) ∧
  vx_Zq Bundle.tN "UNASSIGNED_STACK" Bundle.steD A U U.heap ∧ vx_Zq Bundle.tN "SUPPRESSED_SENTINEL" Bundle.listD A U U.heap ∧
  (∃ t, va_Z RX3 "STOCK_LIMITS" "[I" (.ref t) A U U.heap ∧ va_T .int t 4 (fun j => .int (limF j)) A U U.heap) ∧
  (∃ t, va_Z RX4 "MOST" "[I" (.ref t) A U U.heap ∧ va_T .int t 5 (fun j => .int (mostF j)) A U U.heap) ∧ va_AO RX1 U ∧ va_AO RX2 U
theorem ST.call {A B : Nat → Prop} {s U : State} {H : Heap} {locs : List Loc} (h : ST A s) (hS : va_S A s.heap H locs) (hW : s.WarmedH U.vm) (hU : U.heap = H) (hB : ∀ q, B q → A q) : ST B U := by
  obtain ⟨h1, h2, h3, h4, h5, h5d, h6, h7, ⟨t8, h8, h9⟩, ⟨t10, h10, h11⟩, h12, h13⟩ := h
  have hk : ∀ a : Nat, a < s.heap.size → ¬ A a → U.heap[a]? = s.heap[a]? := by rw [hU]; exact hS.2.1
  refine ⟨fun x hx => va_Nw.warmF hW (h1 x hx), fun x hx => va_Nw.warmM hW (h2 x hx), fun q hq => ?_, fun q hq => va_Nc.moved hW.alike (h4 q hq), fun q hq => va_Nw.warmC hW (h5 q hq), fun x hx => va_Nw.warmD hW (h5d x hx),
    ((h6.kept hk).moved hW.alike).narrow hB, ((h7.kept hk).moved hW.alike).narrow hB, ⟨t8, ((h8.kept hk).moved hW.alike).narrow hB, ((h9.kept hk).moved hW.alike).narrow hB⟩, ⟨t10, ((h10.kept hk).moved hW.alike).narrow hB, ((h11.kept hk).moved hW.alike).narrow hB⟩, h12.moved hW.alike, h13.moved hW.alike⟩
  obtain ⟨a, ha⟩ := h3 q hq
  exact ⟨a, ha.warm hW⟩
/-! where a callee's world lies in the caller's -/
theorem dn_of {A : Nat → Prop} {ws : va_W} (h : va_D A ws) : (ws.map (fun q => q.1)).Nodup ∧ ∀ q ∈ ws, A q.1 := by
  refine ⟨?_, fun q hq => ?_⟩
  · refine List.pairwise_iff_getElem.mpr (fun i j hi hj hij he => ?_)
    rw [List.length_map] at hi hj
    rw [List.getElem_map, List.getElem_map] at he
    have h1 := h.1 i j _ _ (List.getElem?_eq_getElem hi) (List.getElem?_eq_getElem hj) he
    omega
  · obtain ⟨k, hk⟩ := List.getElem?_of_mem hq
    exact h.2 k q hk
theorem dn_to {A : Nat → Prop} {ws : va_W} (h1 : (ws.map (fun q => q.1)).Nodup) (h2 : ∀ q ∈ ws, A q.1) : va_D A ws := by
  refine ⟨fun i j p q hi hj he => ?_, fun k q hk => h2 q (List.mem_of_getElem? hk)⟩
  have e : ∀ i, (ws.map (fun q : Nat × va_E => q.1))[i]? = (ws[i]?).map (fun q : Nat × va_E => q.1) := fun i => List.getElem?_map ..
  have hi' := (List.getElem?_eq_some_iff.mp hi).1
  exact (List.getElem?_inj (by rw [List.length_map]; exact hi') h1).mp (by rw [e, e, hi, hj]; exact congrArg some he)
def Jn (ws wc w1 ws' : va_W) : Prop :=
  (∀ q ∈ wc, q ∈ ws) ∧ (∀ A, va_D A ws → va_D A wc) ∧ (∀ A, va_D A ws → va_D A ws') ∧ (∀ A, va_D A ws → ∀ q ∈ ws', q ∈ w1 ∨ (q ∈ ws ∧ ∀ p ∈ wc, p.1 ≠ q.1))
theorem Jn_mid (L wc w1 R : va_W) (h : w1.map (fun q => q.1) = wc.map (fun q => q.1)) : Jn (L ++ (wc ++ R)) wc w1 (L ++ (w1 ++ R)) := by
  refine ⟨fun q hq => by simp [hq], fun A hD => ?_, fun A hD => ?_, fun A hD q hq => ?_⟩
  · obtain ⟨h1, h2⟩ := dn_of hD
    simp only [List.map_append, List.nodup_append] at h1
    exact dn_to h1.2.1.1 (fun q hq => h2 q (by simp [hq]))
  · obtain ⟨h1, h2⟩ := dn_of hD
    refine dn_to ?_ (fun q hq => ?_)
    · simp only [List.map_append] at h1 ⊢
      rw [h]; exact h1
    · simp only [List.mem_append] at hq
      rcases hq with hq | hq | hq
      · exact h2 q (by simp [hq])
      · have : q.1 ∈ wc.map (fun q => q.1) := by rw [← h]; exact List.mem_map.mpr ⟨q, hq, rfl⟩
        obtain ⟨p, hp, hpq⟩ := List.mem_map.mp this
        rw [← hpq]; exact h2 p (by simp [hp])
      · exact h2 q (by simp [hq])
  · obtain ⟨h1, h2⟩ := dn_of hD
    simp only [List.map_append, List.nodup_append] at h1
    simp only [List.mem_append] at hq
    rcases hq with hq | hq | hq
    · refine Or.inr ⟨by simp [hq], fun p hp he => ?_⟩
      exact h1.2.2 q.1 (List.mem_map.mpr ⟨q, hq, rfl⟩) p.1 (List.mem_append_left _ (List.mem_map.mpr ⟨p, hp, rfl⟩)) he.symm
    · exact Or.inl hq
    · refine Or.inr ⟨by simp [hq], fun p hp he => ?_⟩
      exact h1.2.1.2.2 p.1 (List.mem_map.mpr ⟨p, hp, rfl⟩) q.1 (List.mem_map.mpr ⟨q, hq, rfl⟩) he
theorem Jn_all (ws w1 : va_W) (h : w1.map (fun q => q.1) = ws.map (fun q => q.1)) : Jn ws ws w1 w1 := by
  have := Jn_mid [] ws w1 [] h
  simpa using this
theorem Jn_nil (ws : va_W) : Jn ws [] [] ws := by
  refine ⟨fun q hq => by simp at hq, fun A hD => dn_to (by simp) (by simp), fun A h => h, fun A hD q hq => Or.inr ⟨hq, fun p hp => by simp at hp⟩⟩
theorem Jn_set {ws : va_W} (k a : Nat) (e e' : va_E) (h : ws[k]? = some (a, e)) : Jn ws [(a, e)] [(a, e')] (ws.set k (a, e')) := by
  refine ⟨fun q hq => ?_, fun A hD => ?_, fun A hD => hD.set h, fun A hD q hq => ?_⟩
  · rw [List.mem_singleton.mp hq]; exact List.mem_of_getElem? h
  · exact dn_to (by simp) (fun q hq => by rw [List.mem_singleton.mp hq]; exact hD.2 k _ h)
  · obtain ⟨j, hj⟩ := List.getElem?_of_mem hq
    by_cases hjk : j = k
    · subst hjk
      rw [List.getElem?_set_self (List.getElem?_eq_some_iff.mp h).1] at hj
      cases hj
      exact Or.inl (List.mem_singleton.mpr rfl)
    · rw [List.getElem?_set_ne (Ne.symm hjk)] at hj
      refine Or.inr ⟨List.mem_of_getElem? hj, fun p hp he => ?_⟩
      rw [List.mem_singleton.mp hp] at he
      exact hjk (hD.1 k j _ _ h hj he).symm
theorem Jn.P {D : va_G} {ws wc w1 ws' : va_W} {A : Nat → Prop} {H H1 : Heap} (J : Jn ws wc w1 ws') (hP : va_P D vwCl ws H) (hD : va_D A ws) (hP1 : va_P D vwCl w1 H1) (hk : ∀ q : Nat, q < H.size → ¬ va_A wc H.size q → H1[q]? = H[q]?) : va_P D vwCl ws' H1 := by
  intro k q hq
  rcases J.2.2.2 A hD q (List.mem_of_getElem? hq) with h | ⟨h, hn⟩
  · obtain ⟨j, hj⟩ := List.getElem?_of_mem h
    exact hP1 j q hj
  · obtain ⟨j, hj⟩ := List.getElem?_of_mem h
    have hl := (hP j q hj).lt
    refine (hP j q hj).kept (hk q.1 hl ?_)
    rintro (⟨i, e, hi⟩ | hi)
    · exact hn (q.1, e) (List.mem_of_getElem? hi) rfl
    · omega
theorem Jn.sub {D : va_G} {ws wc w1 ws' : va_W} {H : Heap} (J : Jn ws wc w1 ws') (hP : va_P D vwCl ws H) : va_P D vwCl wc H := by
  intro k q hq
  obtain ⟨j, hj⟩ := List.getElem?_of_mem (J.1 q (List.mem_of_getElem? hq))
  exact hP j q hj
theorem Jn.free {ws wc w1 ws' : va_W} {A : Nat → Prop} {H0 H : Heap} {locs : List Loc} (J : Jn ws wc w1 ws') (hD : va_D A ws) (hS : va_S A H0 H locs) (hA : ∀ q, H0.size ≤ q → A q) : ∀ q, va_A wc H.size q → A q := by
  rintro q (⟨k, e, hk⟩ | hk)
  · exact (dn_of hD).2 (q, e) (J.1 _ (List.mem_of_getElem? hk))
  · exact hA q (Nat.le_trans hS.1 hk)
/-! contracts -/
def Qd (D : va_G) (o : Option Value) (w1 : va_W) (A : Nat → Prop) : Array Value → State → Outcome → State → Prop := fun _ st oc t => oc = .returned o ∧ va_P D vwCl w1 t.heap ∧ va_F A st t
def Xd (D : va_G) (px : String → Prop) (wc : va_W) (A : Nat → Prop) : String → State → State → Prop := fun E st t => px E ∧ va_P D vwCl wc t.heap ∧ va_F A st t
def Pd (D : va_G) (tys : List (ClassId × FieldType)) (av : List Value) (wc : va_W) (sz : Nat) : Array Value → State → Prop := va_Pc av (fun U => U.heap.size = sz ∧ va_P D vwCl wc U.heap ∧ va_K D vwCl tys U ∧ va_D (fun _ => True) wc ∧ ST (va_A wc sz) U)
def M0 (l : Launch) (y : MethodName) (ws : List Cond) (rm : Room) (D : va_G) (tys : List (ClassId × FieldType)) (av : List Value) (wc : va_W) (o : Option Value) (w1 : va_W) (mc ms : Nat) : Prop := ∀ sz : Nat, Met l y ws rm (Pd D tys av wc sz) (Qd D o w1 (va_A wc sz)) mc ms (va_A wc sz)
def M1 (l : Launch) (y : MethodName) (ws : List Cond) (rm : Room) (D : va_G) (tys : List (ClassId × FieldType)) (av : List Value) (wc : va_W) (ok : Prop) (o : Option Value) (w1 : va_W) (px : String → Prop) (mc ms : Nat) : Prop := ∀ sz : Nat, vx_Met l y ws rm (Pd D tys av wc sz) (fun a st oc t => ok ∧ Qd D o w1 (va_A wc sz) a st oc t) (Xd D px wc (va_A wc sz)) mc ms (va_A wc sz)
def Q0 (below : List Frame) (D : va_G) (o : Option Value) (w1 : va_W) (A : Nat → Prop) (args : Array Value) (s : State) (mc ms : Nat) : State → Prop := MQ below (Qd D o w1 A) args s mc ms A
def Q1 (below : List Frame) (D : va_G) (ok : Prop) (o : Option Value) (w1 : va_W) (px : String → Prop) (wc : va_W) (A : Nat → Prop) (args : Array Value) (s : State) (mc ms : Nat) : State → Prop := vx_MQ below (fun a st oc t => ok ∧ Qd D o w1 A a st oc t) (Xd D px wc A) args s mc ms A
/-- what a body has at hand -/
def Bd (p : Program) (s : State) (m : MethodId) (meth : Method) (c : Code) (y : MethodName) (cc : ByteArray) (maxL : Nat) (ret : Option FieldType) (args : Array Value) (ws : List Cond) (D : va_G) (tys : List (ClassId × FieldType)) (A : Nat → Prop) (wc : va_W) : Prop :=
  p.tables.exec = Jvm.exec ∧ c.code = cc ∧ c.maxLocals = maxL ∧ meth.sig.returnType = ret ∧ s.vm.findClass y.cls = some m.cls ∧ (∀ w ∈ ws, w.before args s = true) ∧ meth.locks = false ∧ va_K D vwCl tys s ∧ va_P D vwCl wc s.heap ∧ va_D A wc ∧ (∀ q : Nat, s.heap.size ≤ q → A q) ∧ ST A s ∧ meth.name = y.name
theorem Met_ofF {l : Launch} {y : MethodName} {ws ws' : List Cond} {rm : Room} {Pc : Array Value → State → Prop} {Qc : Array Value → State → Outcome → State → Prop} {mc ms : Nat} {free : Addr → Prop} {cc : ByteArray} {maxL : Nat} {ret : Option FieldType}
    (hy : plainFor y = true) (hw : ws = Cond.code y cc maxL ret :: ws')
    (body : ∀ p e s m args below meth c s₁, BodyLoose p l y (headSpec ws rm) cc maxL ret e s m args below meth c s₁ → c.maxLocals = maxL → Pc args s →
      W p l e (headSpec ws rm).room s m args below meth c s.heap [] 0 0 (MQ below Qc args s mc ms free) (entryFrame m args maxL)) : Met l y ws rm Pc Qc mc ms free := by
  refine MetFree.of_bodySF (code := cc) (maxLocals := maxL) (ret := ret) hy ?_ ?_
  · intro args s m h hn
    obtain ⟨meth, c, h1, h2, h3, h4, h5, h6, -, -⟩ := Cond.code_spec hn (atoms_spec (ws := ws) h _ (by rw [hw]; exact List.mem_cons_self))
    exact ⟨meth, c, h1, h2, h3, h4, h5, h6⟩
  · intro p e s m args below meth c s₁ B hml hP _
    have hh0 : s₁.heap = s.heap := by rw [B.state]; rfl
    obtain ⟨t, a1, o, b1, b2, b3⟩ := body p e s m args below meth c s₁ B hml hP s₁ hh0 (Stand.of_body B)
    exact ⟨t, o, a1, b1, b2, ⟨b3.1, b3.2⟩⟩
theorem M0_of {l : Launch} {y : MethodName} {ws ws' : List Cond} {rm : Room} {D : va_G} {tys : List (ClassId × FieldType)} {av : List Value} {wc : va_W} {o : Option Value} {w1 : va_W} {mc ms : Nat} {cc : ByteArray} {maxL : Nat} {ret : Option FieldType} (hy : plainFor y = true) (hw : ws = .code y cc maxL ret :: ws') (hlen : (lg_sl av).length ≤ maxL)
    (body : ∀ p e s m args below meth c A, Bd p s m meth c y cc maxL ret args ws D tys A wc → ∀ ls, lv_has ls maxL (lv_args 0 av) → W p l e rm s m args below meth c s.heap [] 0 0 (Q0 below D o w1 A args s mc ms) (F0 m 0 ls [])) : M0 l y ws rm D tys av wc o w1 mc ms := by
  intro sz
  refine Met_ofF (cc := cc) (maxL := maxL) (ret := ret) hy hw ?_
  intro p e s m args below meth c s₁ B hml hv
  obtain ⟨rfl, hsz, hP, hK, hD0, hST⟩ := hv
  subst hsz
  have h := body p e s m av.toArray below meth c (va_A wc s.heap.size) ⟨B.exec, B.bytes, hml, B.returns, findClass_of_methodNamed B.named, atoms_spec (ws := ws) B.pre, B.notSynchronized, hK, hP, hD0.self (sz := s.heap.size), fun q h => Or.inr h, hST, (name_of_methodNamed B.named B.method).1⟩ _ (lv_entry av hlen)
  rw [lg_entry_eq]
  exact h
theorem M1_of {l : Launch} {y : MethodName} {ws ws' : List Cond} {rm : Room} {D : va_G} {tys : List (ClassId × FieldType)} {av : List Value} {wc : va_W} {ok : Prop} {o : Option Value} {w1 : va_W} {px : String → Prop} {mc ms : Nat} {cc : ByteArray} {maxL : Nat} {ret : Option FieldType} (hy : plainName y.cls = true) (hw : ws = .code y cc maxL ret :: ws') (hlen : (lg_sl av).length ≤ maxL)
    (body : ∀ p e s m args below meth c A, Bd p s m meth c y cc maxL ret args ws D tys A wc → (∀ x ∈ c.exceptionTable.toList, False) → ∀ ls, lv_has ls maxL (lv_args 0 av) → W p l e rm s m args below meth c s.heap [] 0 0 (Q1 below D ok o w1 px wc A args s mc ms) (F0 m 0 ls [])) : M1 l y ws rm D tys av wc ok o w1 px mc ms := by
  intro sz
  refine vx_ofW (cc := cc) (maxL := maxL) (ret := ret) hy hw ?_
  intro p e s m args below meth c s₁ B hml htab hv
  obtain ⟨rfl, hsz, hP, hK, hD0, hST⟩ := hv
  subst hsz
  have h := body p e s m av.toArray below meth c (va_A wc s.heap.size) ⟨B.exec, B.bytes, hml, B.returns, findClass_of_methodNamed B.named, atoms_spec (ws := ws) B.pre, B.notSynchronized, hK, hP, hD0.self (sz := s.heap.size), fun q h => Or.inr h, hST, (name_of_methodNamed B.named B.method).1⟩ htab _ (lv_entry av hlen)
  rw [lg_entry_eq]
  exact h

section KC
variable {p : Program} {l : Launch} {e : Env} {R : Room} {s : State} {m : MethodId} {args : Array Value} {below : List Frame} {meth : Method} {c : Code} {H : Heap} {locs : List Loc} {cells slots : Nat} {Q : State → Prop}
variable {y : MethodName} {bytes cc : ByteArray} {maxL nL mc ms n index pc : Nat} {ret : Option FieldType} {wsY Ts : List Cond} {rm : Room} {own C host : String} {b : Addr} {As rest st0 st1 av : List Value} {ls : Array Slot}
variable {D : va_G} {tys : List (ClassId × FieldType)} {ws wc w1 ws' : va_W} {o : Option Value} {A : Nat → Prop} {ok : Prop} {px : String → Prop}
theorem pd_blind {sz : Nat} : FrameBlind (Pd D tys av wc sz) := fun a U g mk h => by
  obtain ⟨h1, h2, h3, h4, h5, h6⟩ := h
  refine ⟨h1, h2, h3, va_K.moved (u := U) (U := U.calling g mk a) (Vm.Alike.refl U.vm) h4, h5, ?_⟩
  exact h6
theorem pd_at (hK : va_K D vwCl tys s) (hP : va_P D vwCl ws H) (hD : va_D A ws) (hS : va_S A s.heap H locs) (hA : ∀ q : Nat, s.heap.size ≤ q → A q) (hST : ST A s) (J : Jn ws wc w1 ws') : ∀ U : State, U.heap = H → s.WarmedH U.vm → Pd D tys av wc H.size av.toArray U := fun U hU hW => by
  refine ⟨rfl, by rw [hU], by rw [hU]; exact J.sub hP, va_K.moved hW.alike hK, (J.2.1 A hD).weaken (fun _ _ _ _ => trivial), ?_⟩
  exact hST.call hS hW hU (J.free hD hS hA)
theorem c0_go {a : Array Value} (hr : va_Run p l e R s m args below meth c H locs cells slots mc ms (F0 m pc ls st0) rest (Qd D o w1 (va_A wc H.size) a) (va_A wc H.size)) (hP : va_P D vwCl ws H) (hD : va_D A ws) (hS : va_S A s.heap H locs) (hA : ∀ q : Nat, s.heap.size ≤ q → A q) (J : Jn ws wc w1 ws') (hst : o.toList ++ rest = st1)
    (kk : ∀ (H1 : Heap) (locs1 : List Loc), va_P D vwCl ws' H1 → va_D A ws' → va_S A s.heap H1 locs1 → W p l e R s m args below meth c H1 locs1 (cells + mc) (slots + ms) Q (F0 m (pc + 3) ls st1)) : W p l e R s m args below meth c H locs cells slots Q (F0 m pc ls st0) := by
  intro T hT X
  obtain ⟨v, st₀, t, T', L, h0, X', hL, e1, e2, ⟨hv, hP1, hz, hk⟩, st⟩ := hr T hT X
  cases hv
  rw [h0] at hz hk
  have hF := J.free hD hS hA
  obtain ⟨t2, a1, b1⟩ := kk T'.heap (locs ++ L) (J.P hP hD (by rw [e1]; exact hP1) (fun q h1 h2 => by rw [e1]; exact hk q h1 h2)) (J.2.2.1 A hD)
    ⟨Nat.le_trans hS.1 (by rw [e1]; exact hz), fun q h1 h2 => by rw [e1, hk q (Nat.lt_of_lt_of_le h1 hS.1) (fun z => h2 (hF q z))]; exact hS.2.1 q h1 h2, fun q hq => by
      rcases List.mem_append.mp hq with h | h
      · exact hS.2.2 q h
      · exact hF _ (hL q h)⟩ T' rfl X'
  rw [← hst] at a1
  exact ⟨t2, st t2 a1, b1⟩
theorem c0_V (S : CallFix p m c cc nL s args Ts own) (hM : M0 l y wsY rm D tys (.ref b :: As) wc o w1 mc ms) (cw : CallW R s args own C index y bytes maxL ret wsY rm mc ms n) (hK : va_K D vwCl tys s) (hP : va_P D vwCl ws H) (hD : va_D A ws) (hS : va_S A s.heap H locs) (hA : ∀ q : Nat, s.heap.size ≤ q → A q) (hST : ST A s) (J : Jn ws wc w1 ws')
    (k0 : Nat) {ci : Nat} {q : vw_C} {fs : List Value} (hk0 : wc[k0]? = some (b, .inr (ci, fs))) (hci : vwCl[ci]? = some q) (hq : q.1 = C) (hn : As.length = n) (hsize : ls.size = nL) (hstack : st0 = As.reverse ++ .ref b :: rest) (hW : (rest.map fun v => v.category).sum ≤ 8) (hdg : decode cc pc = .ok (.invokevirtual index, 3)) (hf : cells + mc ≤ R.cells ∧ slots + ms ≤ R.slots) (hst : o.toList ++ rest = st1)
    (kk : ∀ (H1 : Heap) (locs1 : List Loc), va_P D vwCl ws' H1 → va_D A ws' → va_S A s.heap H1 locs1 → W p l e R s m args below meth c H1 locs1 (cells + mc) (slots + ms) Q (F0 m (pc + 3) ls st1)) : W p l e R s m args below meth c H locs cells slots Q (F0 m pc ls st0) := by
  subst hq
  exact c0_go (va_runV S (hM H.size) cw ⟨pd_blind, va_recv hK (J.sub hP) hci hk0, pd_at hK hP hD hS hA hST J⟩ rfl hn hsize hstack (lv_room hW) hdg hf) hP hD hS hA J hst kk
theorem c0_S (S : CallFix p m c cc nL s args Ts own) (hM : M0 l y wsY rm D tys As wc o w1 mc ms) (cw : CallB R s args own index y bytes maxL ret wsY rm mc ms n ∧ (Cond.static y).before args s = true) (hK : va_K D vwCl tys s) (hP : va_P D vwCl ws H) (hD : va_D A ws) (hS : va_S A s.heap H locs) (hA : ∀ q : Nat, s.heap.size ≤ q → A q) (hST : ST A s) (J : Jn ws wc w1 ws')
    (hn : As.length = n) (hsize : ls.size = nL) (hstack : st0 = As.reverse ++ rest) (hW : (rest.map fun v => v.category).sum ≤ 8) (hdg : decode cc pc = .ok (.invokestatic index, 3)) (hf : cells + mc ≤ R.cells ∧ slots + ms ≤ R.slots) (hst : o.toList ++ rest = st1)
    (kk : ∀ (H1 : Heap) (locs1 : List Loc), va_P D vwCl ws' H1 → va_D A ws' → va_S A s.heap H1 locs1 → W p l e R s m args below meth c H1 locs1 (cells + mc) (slots + ms) Q (F0 m (pc + 3) ls st1)) : W p l e R s m args below meth c H locs cells slots Q (F0 m pc ls st0) :=
  c0_go (va_runS S (hM H.size) cw ⟨pd_blind, pd_at hK hP hD hS hA hST J⟩ rfl hn hsize hstack (lv_room hW) hdg hf) hP hD hS hA J hst kk
theorem c0_SN (S : CallFix p m c cc nL s args Ts own) (hM : M0 l y wsY rm D tys As wc o w1 mc ms) (cw : va_CN R s args own index y host bytes maxL ret wsY rm mc ms n ∧ (Cond.static y).before args s = true ∧ True) (hK : va_K D vwCl tys s) (hP : va_P D vwCl ws H) (hD : va_D A ws) (hS : va_S A s.heap H locs) (hA : ∀ q : Nat, s.heap.size ≤ q → A q) (hST : ST A s) (J : Jn ws wc w1 ws')
    (hn : As.length = n) (hsize : ls.size = nL) (hstack : st0 = As.reverse ++ rest) (hW : (rest.map fun v => v.category).sum ≤ 8) (hdg : decode cc pc = .ok (.invokestatic index, 3)) (hf : cells + mc ≤ R.cells ∧ slots + ms ≤ R.slots) (hst : o.toList ++ rest = st1)
    (kk : ∀ (H1 : Heap) (locs1 : List Loc), va_P D vwCl ws' H1 → va_D A ws' → va_S A s.heap H1 locs1 → W p l e R s m args below meth c H1 locs1 (cells + mc) (slots + ms) Q (F0 m (pc + 3) ls st1)) : W p l e R s m args below meth c H locs cells slots Q (F0 m pc ls st0) :=
  c0_go (va_runSN S (hM H.size) cw ⟨pd_blind, pd_at hK hP hD hS hA hST J⟩ rfl hn hsize hstack (lv_room hW) hdg hf) hP hD hS hA J hst kk
theorem c0_I (S : CallFix p m c cc nL s args Ts own) (hM : M0 l y wsY rm D tys (.ref b :: As) wc o w1 mc ms) (cw : CallB R s args own index y bytes maxL none wsY rm mc ms n ∧ y.name = "<init>" ∧ (Cond.instanceMethod y).before args s = true) (hK : va_K D vwCl tys s) (hP : va_P D vwCl ws H) (hD : va_D A ws) (hS : va_S A s.heap H locs) (hA : ∀ q : Nat, s.heap.size ≤ q → A q) (hST : ST A s) (J : Jn ws wc w1 ws')
    (hn : As.length = n) (hsize : ls.size = nL) (hstack : st0 = As.reverse ++ .ref b :: rest) (hW : (rest.map fun v => v.category).sum ≤ 8) (hdg : decode cc pc = .ok (.invokespecial index, 3)) (hf : cells + mc ≤ R.cells ∧ slots + ms ≤ R.slots) (hst : o.toList ++ rest = st1)
    (kk : ∀ (H1 : Heap) (locs1 : List Loc), va_P D vwCl ws' H1 → va_D A ws' → va_S A s.heap H1 locs1 → W p l e R s m args below meth c H1 locs1 (cells + mc) (slots + ms) Q (F0 m (pc + 3) ls st1)) : W p l e R s m args below meth c H locs cells slots Q (F0 m pc ls st0) :=
  c0_go (va_runI S (hM H.size) cw ⟨pd_blind, pd_at hK hP hD hS hA hST J⟩ rfl hn hsize hstack (lv_room hW) hdg hf) hP hD hS hA J hst kk
theorem c0_IN (S : CallFix p m c cc nL s args Ts own) (hM : M0 l y wsY rm D tys (.ref b :: As) wc o w1 mc ms) (cw : va_CN R s args own index y host bytes maxL none wsY rm mc ms n ∧ y.name = "<init>" ∧ (Cond.instanceMethod y).before args s = true) (hK : va_K D vwCl tys s) (hP : va_P D vwCl ws H) (hD : va_D A ws) (hS : va_S A s.heap H locs) (hA : ∀ q : Nat, s.heap.size ≤ q → A q) (hST : ST A s) (J : Jn ws wc w1 ws')
    (hn : As.length = n) (hsize : ls.size = nL) (hstack : st0 = As.reverse ++ .ref b :: rest) (hW : (rest.map fun v => v.category).sum ≤ 8) (hdg : decode cc pc = .ok (.invokespecial index, 3)) (hf : cells + mc ≤ R.cells ∧ slots + ms ≤ R.slots) (hst : o.toList ++ rest = st1)
    (kk : ∀ (H1 : Heap) (locs1 : List Loc), va_P D vwCl ws' H1 → va_D A ws' → va_S A s.heap H1 locs1 → W p l e R s m args below meth c H1 locs1 (cells + mc) (slots + ms) Q (F0 m (pc + 3) ls st1)) : W p l e R s m args below meth c H locs cells slots Q (F0 m pc ls st0) :=
  c0_go (va_runIN S (hM H.size) cw ⟨pd_blind, pd_at hK hP hD hS hA hST J⟩ rfl hn hsize hstack (lv_room hW) hdg hf) hP hD hS hA J hst kk
/-! a callee that may throw -/
theorem c1_go {a : Array Value} (hr : vx_Run p l e R s m args below meth c H locs cells slots mc ms (F0 m pc ls st0) rest (fun st oc t => ok ∧ Qd D o w1 (va_A wc H.size) a st oc t) (Xd D px wc (va_A wc H.size)) (va_A wc H.size)) (hP : va_P D vwCl ws H) (hD : va_D A ws) (hS : va_S A s.heap H locs) (hA : ∀ q : Nat, s.heap.size ≤ q → A q) (J : Jn ws wc w1 ws') (J0 : Jn ws wc wc ws) (hst : o.toList ++ rest = st1)
    (kx : ∀ (E : String) (ce : Cell) (q9 : Addr) (H1 : Heap) (locs1 : List Loc), px E → va_P D vwCl ws H1 → va_S A s.heap H1 locs1 → H1[q9]? = some ce → ce.vm = .none → s.vm.findClass E = some ce.cls → vx_W p l e R s m args below meth c H1 locs1 (cells + mc) (slots + ms) Q (F0 m pc ls rest) q9)
    (kk : ok → ∀ (H1 : Heap) (locs1 : List Loc), va_P D vwCl ws' H1 → va_D A ws' → va_S A s.heap H1 locs1 → W p l e R s m args below meth c H1 locs1 (cells + mc) (slots + ms) Q (F0 m (pc + 3) ls st1)) : W p l e R s m args below meth c H locs cells slots Q (F0 m pc ls st0) := by
  intro T hT X
  have hF := J.free hD hS hA
  rcases hr T hT X with ⟨v, st₀, t, T', L, h0, X', hL, e1, e2, ⟨hok, hv, hP1, hz, hk⟩, st⟩ | ⟨q, st₀, t, T', L, E, ce, h0, X', hL, e1, e2, ⟨hp, hP1, hz, hk⟩, hce, hcv, hcl, st⟩
  · cases hv
    rw [h0] at hz hk
    obtain ⟨t2, a1, b1⟩ := kk hok T'.heap (locs ++ L) (J.P hP hD (by rw [e1]; exact hP1) (fun q h1 h2 => by rw [e1]; exact hk q h1 h2)) (J.2.2.1 A hD)
      ⟨Nat.le_trans hS.1 (by rw [e1]; exact hz), fun q h1 h2 => by rw [e1, hk q (Nat.lt_of_lt_of_le h1 hS.1) (fun z => h2 (hF q z))]; exact hS.2.1 q h1 h2, fun q hq => by
        rcases List.mem_append.mp hq with h | h
        · exact hS.2.2 q h
        · exact hF _ (hL q h)⟩ T' rfl X'
    rw [← hst] at a1
    exact ⟨t2, st t2 a1, b1⟩
  · rw [h0] at hz hk
    obtain ⟨t2, a1, b1⟩ := kx E ce q T'.heap (locs ++ L) hp (J0.P hP hD (by rw [e1]; exact hP1) (fun q h1 h2 => by rw [e1]; exact hk q h1 h2))
      ⟨Nat.le_trans hS.1 (by rw [e1]; exact hz), fun q h1 h2 => by rw [e1, hk q (Nat.lt_of_lt_of_le h1 hS.1) (fun z => h2 (hF q z))]; exact hS.2.1 q h1 h2, fun q hq => by
        rcases List.mem_append.mp hq with h | h
        · exact hS.2.2 q h
        · exact hF _ (hL q h)⟩ (by rw [e1]; exact hce) hcv hcl T' rfl X'
    exact ⟨t2, st.trans a1, b1⟩
theorem c1_V (S : CallFix p m c cc nL s args Ts own) (hM : M1 l y wsY rm D tys (.ref b :: As) wc ok o w1 px mc ms) (cw : CallW R s args own C index y bytes maxL ret wsY rm mc ms n) (hK : va_K D vwCl tys s) (hP : va_P D vwCl ws H) (hD : va_D A ws) (hS : va_S A s.heap H locs) (hA : ∀ q : Nat, s.heap.size ≤ q → A q) (hST : ST A s) (J : Jn ws wc w1 ws') (J0 : Jn ws wc wc ws)
    (k0 : Nat) {ci : Nat} {q : vw_C} {fs : List Value} (hk0 : wc[k0]? = some (b, .inr (ci, fs))) (hci : vwCl[ci]? = some q) (hq : q.1 = C) (hn : As.length = n) (hsize : ls.size = nL) (hstack : st0 = As.reverse ++ .ref b :: rest) (hW : (rest.map fun v => v.category).sum ≤ 8) (hdg : decode cc pc = .ok (.invokevirtual index, 3)) (hf : cells + mc ≤ R.cells ∧ slots + ms ≤ R.slots) (hst : o.toList ++ rest = st1)
    (kx : ∀ (E : String) (ce : Cell) (q9 : Addr) (H1 : Heap) (locs1 : List Loc), px E → va_P D vwCl ws H1 → va_S A s.heap H1 locs1 → H1[q9]? = some ce → ce.vm = .none → s.vm.findClass E = some ce.cls → vx_W p l e R s m args below meth c H1 locs1 (cells + mc) (slots + ms) Q (F0 m pc ls rest) q9)
    (kk : ok → ∀ (H1 : Heap) (locs1 : List Loc), va_P D vwCl ws' H1 → va_D A ws' → va_S A s.heap H1 locs1 → W p l e R s m args below meth c H1 locs1 (cells + mc) (slots + ms) Q (F0 m (pc + 3) ls st1)) : W p l e R s m args below meth c H locs cells slots Q (F0 m pc ls st0) := by
  subst hq
  exact c1_go (vx_runV S (hM H.size) cw ⟨pd_blind, va_recv hK (J.sub hP) hci hk0, pd_at hK hP hD hS hA hST J⟩ rfl hn hsize hstack (lv_room hW) hdg hf) hP hD hS hA J J0 hst kx kk
theorem c1_S (S : CallFix p m c cc nL s args Ts own) (hM : M1 l y wsY rm D tys As wc ok o w1 px mc ms) (cw : CallB R s args own index y bytes maxL ret wsY rm mc ms n ∧ (Cond.static y).before args s = true) (hK : va_K D vwCl tys s) (hP : va_P D vwCl ws H) (hD : va_D A ws) (hS : va_S A s.heap H locs) (hA : ∀ q : Nat, s.heap.size ≤ q → A q) (hST : ST A s) (J : Jn ws wc w1 ws') (J0 : Jn ws wc wc ws)
    (hn : As.length = n) (hsize : ls.size = nL) (hstack : st0 = As.reverse ++ rest) (hW : (rest.map fun v => v.category).sum ≤ 8) (hdg : decode cc pc = .ok (.invokestatic index, 3)) (hf : cells + mc ≤ R.cells ∧ slots + ms ≤ R.slots) (hst : o.toList ++ rest = st1)
    (kx : ∀ (E : String) (ce : Cell) (q9 : Addr) (H1 : Heap) (locs1 : List Loc), px E → va_P D vwCl ws H1 → va_S A s.heap H1 locs1 → H1[q9]? = some ce → ce.vm = .none → s.vm.findClass E = some ce.cls → vx_W p l e R s m args below meth c H1 locs1 (cells + mc) (slots + ms) Q (F0 m pc ls rest) q9)
    (kk : ok → ∀ (H1 : Heap) (locs1 : List Loc), va_P D vwCl ws' H1 → va_D A ws' → va_S A s.heap H1 locs1 → W p l e R s m args below meth c H1 locs1 (cells + mc) (slots + ms) Q (F0 m (pc + 3) ls st1)) : W p l e R s m args below meth c H locs cells slots Q (F0 m pc ls st0) :=
  c1_go (vx_runS S (hM H.size) cw ⟨pd_blind, pd_at hK hP hD hS hA hST J⟩ rfl hn hsize hstack (lv_room hW) hdg hf) hP hD hS hA J J0 hst kx kk
/-! ends -/
theorem qd_end {t : State} (hP : va_P D vwCl w1 H) (hS : va_S A s.heap H locs) (ht : t.heap = H) : Qd D o w1 A args s (.returned o) t := ⟨rfl, by rw [ht]; exact hP, hS.F ht⟩
theorem e0_i {v : Int32} (hx : p.tables.exec = Jvm.exec) (hb : c.code = cc) (hr : meth.sig.returnType = some .int) (hlocks : meth.locks = false) (hP : va_P D vwCl w1 H) (hS : va_S A s.heap H locs) (hdg : decode cc pc = .ok (.ireturn, 1)) (hc : cells ≤ mc) (hs : slots ≤ ms) (ho : o = some (.int v)) :
    W p l e R s m args below meth c H locs cells slots (Q0 below D o w1 A args s mc ms) (F0 m pc ls [.int v]) := by
  subst ho
  exact W.widen hc hs (W.iret hx hb hr (fun t ht _ => qd_end hP hS ht) hS.2.2 hdg)
theorem e0_z {v : Int32} (hx : p.tables.exec = Jvm.exec) (hb : c.code = cc) (hr : meth.sig.returnType = some .boolean) (hlocks : meth.locks = false) (hP : va_P D vwCl w1 H) (hS : va_S A s.heap H locs) (hdg : decode cc pc = .ok (.ireturn, 1)) (hn : narrow .boolean (.int v) = .int v) (hc : cells ≤ mc) (hs : slots ≤ ms) (ho : o = some (.int v)) :
    W p l e R s m args below meth c H locs cells slots (Q0 below D o w1 A args s mc ms) (F0 m pc ls [.int v]) := by
  subst ho
  exact W.widen hc hs (W.zret hx hb hr hn (fun t ht _ => qd_end hP hS ht) hS.2.2 hdg)
theorem e0_v (hx : p.tables.exec = Jvm.exec) (hb : c.code = cc) (hr : meth.sig.returnType = none) (hlocks : meth.locks = false) (hP : va_P D vwCl w1 H) (hS : va_S A s.heap H locs) (hdg : decode cc pc = .ok (.return_, 1)) (hc : cells ≤ mc) (hs : slots ≤ ms) (ho : o = none) :
    W p l e R s m args below meth c H locs cells slots (Q0 below D o w1 A args s mc ms) (F0 m pc ls []) := by
  subst ho
  exact W.widen hc hs (W.vret hx hb hr (fun t ht _ => qd_end hP hS ht) hS.2.2 hdg)
theorem e0_l {v : Int64} (hx : p.tables.exec = Jvm.exec) (hb : c.code = cc) (hr : meth.sig.returnType = some .long) (hlocks : meth.locks = false) (hP : va_P D vwCl w1 H) (hS : va_S A s.heap H locs) (hdg : decode cc pc = .ok (.lreturn, 1)) (hc : cells ≤ mc) (hs : slots ≤ ms) (ho : o = some (.long v)) :
    W p l e R s m args below meth c H locs cells slots (Q0 below D o w1 A args s mc ms) (F0 m pc ls [.long v]) := by
  subst ho
  exact W.widen hc hs (W.lret hx hb hr (fun t ht _ => qd_end hP hS ht) hS.2.2 hdg)
theorem e1_i {v : Int32} (hx : p.tables.exec = Jvm.exec) (hb : c.code = cc) (hr : meth.sig.returnType = some .int) (hlocks : meth.locks = false) (hok : ok) (hP : va_P D vwCl w1 H) (hS : va_S A s.heap H locs) (hdg : decode cc pc = .ok (.ireturn, 1)) (hc : cells ≤ mc) (hs : slots ≤ ms) (ho : o = some (.int v)) :
    W p l e R s m args below meth c H locs cells slots (Q1 below D ok o w1 px wc A args s mc ms) (F0 m pc ls [.int v]) := by
  subst ho
  exact W.widen hc hs (vx_ret (W.iret hx hb hr (fun t ht _ => ⟨hok, qd_end hP hS ht⟩) hS.2.2 hdg))
theorem e1_v (hx : p.tables.exec = Jvm.exec) (hb : c.code = cc) (hr : meth.sig.returnType = none) (hlocks : meth.locks = false) (hok : ok) (hP : va_P D vwCl w1 H) (hS : va_S A s.heap H locs) (hdg : decode cc pc = .ok (.return_, 1)) (hc : cells ≤ mc) (hs : slots ≤ ms) (ho : o = none) :
    W p l e R s m args below meth c H locs cells slots (Q1 below D ok o w1 px wc A args s mc ms) (F0 m pc ls []) := by
  subst ho
  exact W.widen hc hs (vx_ret (W.vret hx hb hr (fun t ht _ => ⟨hok, qd_end hP hS ht⟩) hS.2.2 hdg))
theorem e1_a {x : Addr} {rt : FieldType} (hx : p.tables.exec = Jvm.exec) (hb : c.code = cc) (hr : meth.sig.returnType = some rt) (hrt : ∃ n, rt = .object n) (hlocks : meth.locks = false) (hok : ok) (hP : va_P D vwCl w1 H) (hS : va_S A s.heap H locs) (hdg : decode cc pc = .ok (.areturn, 1)) (hc : cells ≤ mc) (hs : slots ≤ ms) (ho : o = some (.ref x)) :
    W p l e R s m args below meth c H locs cells slots (Q1 below D ok o w1 px wc A args s mc ms) (F0 m pc ls [.ref x]) := by
  subst ho
  exact W.widen hc hs (vx_ret (W.aret hx hb hr (Or.inl hrt) (Or.inr ⟨_, rfl⟩) (fun t ht _ => ⟨hok, qd_end hP hS ht⟩) hS.2.2 hdg))
/-- throw new E("text") in a method of the class -/
theorem vg_1 : ∀ w ∈ (vx_atS RX3 23 IOOBE XN).filter (fun w => !goodWord w), w ∈ [Cond.declares (Bundle.initS "java/lang/RuntimeException"), .declares (Bundle.initS "java/lang/Exception"), .declares (Bundle.initS Bundle.tN), .castable IOOBE IOOBE] := by decide +kernel
theorem vg_2 : ∀ w ∈ (vx_atS RX3 30 IAE XN).filter (fun w => !goodWord w), w ∈ [Cond.declares (Bundle.initS "java/lang/RuntimeException"), .declares (Bundle.initS "java/lang/Exception"), .declares (Bundle.initS Bundle.tN), .castable IAE IAE] := by decide +kernel
theorem vg_3 : ∀ w ∈ (vx_atS RX3 59 ISE XN).filter (fun w => !goodWord w), w ∈ [Cond.declares (Bundle.initS "java/lang/RuntimeException"), .declares (Bundle.initS "java/lang/Exception"), .declares (Bundle.initS Bundle.tN), .castable ISE ISE] := by decide +kernel
theorem vo_1 : ∀ w ∈ Cond.classLink RX3 19 IOOBE :: Cond.initialized IOOBE :: vx_atS RX3 23 IOOBE XN, vx_ot w = true := by decide +kernel
theorem vo_2 : ∀ w ∈ Cond.classLink RX3 26 IAE :: Cond.initialized IAE :: vx_atS RX3 30 IAE XN, vx_ot w = true := by decide +kernel
theorem vo_3 : ∀ w ∈ Cond.classLink RX3 55 ISE :: Cond.initialized ISE :: vx_atS RX3 59 ISE XN, vx_ot w = true := by decide +kernel
theorem xn_fit : ∀ n ∈ XN, Bundle.fit n = true := by decide +kernel
theorem e1_throw {cls text : String} {ik is ic : Nat} (hx : p.tables.exec = Jvm.exec) (hb : c.code = cc) (hl : l.stackTraces = false) (hown : s.vm.findClass RX3 = some m.cls) (hts : ∀ w ∈ Ts, w.before args s = true) (hcls : Bundle.fit cls = true)
    (hk : Cond.classLink RX3 ik cls ∈ Ts) (hini : Cond.initialized cls ∈ Ts) (hgd : ∀ w ∈ (vx_atS RX3 ic cls XN).filter goodWord, w ∈ Ts)
    (hng : ∀ w ∈ (vx_atS RX3 ic cls XN).filter (fun w => !goodWord w), w ∈ [Cond.declares (Bundle.initS "java/lang/RuntimeException"), .declares (Bundle.initS "java/lang/Exception"), .declares (Bundle.initS Bundle.tN), .castable cls cls])
    (hot : ∀ w ∈ Cond.classLink RX3 ik cls :: Cond.initialized cls :: vx_atS RX3 ic cls XN, vx_ot w = true) (hca : cls ∈ CA) (hST : ST A s) (hstr : (is, text) ∈ STR) (hS : va_S A s.heap H locs) (hsize : ls.size = c.maxLocals)
    (d0 : decode cc pc = .ok (.new ik, 3)) (d3 : decode cc (pc + 3) = .ok (.dup, 1)) (d4 : decode cc (pc + 4) = .ok (.ldc is, 2)) (d6 : decode cc (pc + 6) = .ok (.invokespecial ic, 3)) (d9 : decode cc (pc + 9) = .ok (.athrow, 1))
    (htab : ∀ x ∈ c.exceptionTable.toList, False) (hRframes : 5 < R.frames) (hRlocals : (rest.map fun v => v.category).sum + 82 ≤ R.locals) (hRcells : cells + 1 ≤ R.cells) (hRslots : slots + 6 ≤ R.slots) (hlocks : meth.locks = false)
    (hE : px cls) (hP : va_P D vwCl wc H) (hc : cells + 1 ≤ mc) (hs : slots + 6 ≤ ms) :
    W p l e R s m args below meth c H locs cells slots (Q1 below D ok o w1 px wc A args s mc ms) (F0 m pc ls rest) := by
  obtain ⟨h1, h2, h3, h4, h5, h5d, h6, h7, -⟩ := hST
  obtain ⟨sa, hsa⟩ := h3 _ hstr
  have hB : ∀ w ∈ [Cond.declares (Bundle.initS "java/lang/RuntimeException"), .declares (Bundle.initS "java/lang/Exception"), .declares (Bundle.initS Bundle.tN), .castable cls cls], w.before args s = true :=
    vx_c (va_Nw.use rfl (h5d _ (by simp [DC]))) (vx_c (va_Nw.use rfl (h5d _ (by simp [DC]))) (vx_c (va_Nw.use rfl (h5d _ (by simp [DC]))) (vx_c (va_Nw.use rfl (h5 _ hca)) vx_n)))
  refine vx_throwS (names := XN) (A := A) hx hb hl hown hcls xn_fit (hts _ hk) (hts _ hini) hsa (vx_hat (fun w hw => hts w (hgd w hw)) hng hB) hot h6 h7 hS hsize d0 d3 d4 d6 d9 (fun x hx => absurd (htab x hx) id) hRframes (by simpa using hRlocals) hRcells hRslots hlocks ?_ hS.2.2 hc hs
  intro t hvm hz hk9
  refine ⟨hE, hP.kept (fun k q hq => hk9 _ (hP k q hq).lt), Nat.le_trans hS.1 hz, fun q hq hn => ?_⟩
  rw [hk9 q (Nat.lt_of_lt_of_le hq hS.1)]
  exact hS.2.1 q hq hn
/-- a callee's exception goes on to the caller -/
theorem e1_out {E : String} {ce : Cell} {q9 : Addr} (htab : ∀ x ∈ c.exceptionTable.toList, False) (hlocks : meth.locks = false) (hE : px E) (hP : va_P D vwCl wc H) (hS : va_S A s.heap H locs) (hce : H[q9]? = some ce) (hcv : ce.vm = .none) (hcl : s.vm.findClass E = some ce.cls) (hc : cells ≤ mc) (hs : slots ≤ ms) :
    vx_W p l e R s m args below meth c H locs cells slots (Q1 below D ok o w1 px wc A args s mc ms) (F0 m pc ls rest) q9 :=
  vx_out (fun x hx => absurd (htab x hx) id) hlocks hce hcv hcl (fun t ht _ => ⟨hE, by rw [ht]; exact hP, hS.F ht⟩) hS.2.2 hc hs
end KC
end
section
/-! the worlds: A 0 the cellar, A 1 .. A 4 its rows, A 5 .. A 8 the churns, A 9 .. A 14 the tubs; M 0 the reference, M 1 .. M 3 its rows.
    f holds what the reference's row s holds: 0 hour, 1 .. 4 stock, 5 coins, 6 sent away, 7 + 3 i churn i (cold, cream, firm), 19 + 3 i tub i (scoops, soft, sold); g the heats -/
def stk (a b c d : Int32) (k : Nat) : Int32 := if k = 0 then a else if k = 1 then b else if k = 2 then c else if k = 3 then d else 0
def set3 (f : Nat → Int32) (k : Nat) (x y z : Int32) (j : Nat) : Int32 := if j = k then x else if j = k + 1 then y else if j = k + 2 then z else f j
def CW (cI cC cT : ClassId) (A : Nat → Nat) (nc nt : Nat) (f g : Nat → Int32) : va_W :=
  [(A 0, .inr (0, [.ref (A 1), .ref (A 2), .ref (A 3), .ref (A 4), .int (nI nc), .int (nI nt), .int (f 0), .int (f 5), .int (f 6)])),
   (A 1, .inl (cI, 4, .inl (stk (f 1) (f 2) (f 3) (f 4)))), (A 2, .inl (cI, 7, .inl g)),
   (A 3, .inl (cC, 4, .inr (.inr (.inr (.inr (fun i => some (A (5 + i)))))))), (A 4, .inl (cT, 6, .inr (.inr (.inr (.inr (fun i => some (A (9 + i)))))))),
   (A 5, .inr (1, [.int (f 7), .int (f 8), .int (f 9)])), (A 6, .inr (1, [.int (f 10), .int (f 11), .int (f 12)])), (A 7, .inr (1, [.int (f 13), .int (f 14), .int (f 15)])), (A 8, .inr (1, [.int (f 16), .int (f 17), .int (f 18)])),
   (A 9, .inr (2, [.int (f 19), .int (f 20), .int (f 21)])), (A 10, .inr (2, [.int (f 22), .int (f 23), .int (f 24)])), (A 11, .inr (2, [.int (f 25), .int (f 26), .int (f 27)])),
   (A 12, .inr (2, [.int (f 28), .int (f 29), .int (f 30)])), (A 13, .inr (2, [.int (f 31), .int (f 32), .int (f 33)])), (A 14, .inr (2, [.int (f 34), .int (f 35), .int (f 36)]))]
def MW (cI : ClassId) (M : Nat → Nat) (th : Int32) (nc nt : Nat) (f k g : Nat → Int32) : va_W :=
  [(M 0, .inr (4, [.int th, .int (nI nc), .int (nI nt), .ref (M 1), .ref (M 2), .ref (M 3)])), (M 1, .inl (cI, 37, .inl f)), (M 2, .inl (cI, 37, .inl k)), (M 3, .inl (cI, 7, .inl g))]
def XW (cI cC cT : ClassId) (x : Nat) (A B : Nat → Nat) (nc nt : Nat) (f g : Nat → Int32) (nc2 nt2 : Nat) (f2 g2 : Nat → Int32) : va_W :=
  (x, .inr (3, [.ref (A 0), .ref (B 0)])) :: (CW cI cC cT A nc nt f g ++ CW cI cC cT B nc2 nt2 f2 g2)
theorem P_eq {D : va_G} {ws ws' : va_W} {H : Heap} (e : ws = ws') (h : va_P D vwCl ws H) : va_P D vwCl ws' H := e ▸ h
theorem D_fst {A : Nat → Prop} {ws ws' : va_W} (e : ws.map (fun q => q.1) = ws'.map (fun q => q.1)) (h : va_D A ws) : va_D A ws' := by
  obtain ⟨h1, h2⟩ := dn_of h
  refine dn_to (e ▸ h1) (fun q hq => ?_)
  have : q.1 ∈ ws.map (fun q => q.1) := by rw [e]; exact List.mem_map.mpr ⟨q, hq, rfl⟩
  obtain ⟨p, hp, hpq⟩ := List.mem_map.mp this
  rw [← hpq]; exact h2 p hp
theorem stk_upd {a b c d : Int32} (j : Nat) (hj : j < 4) (x : Int32) (f : Nat → Int32) (h1 : f 1 = a) (h2 : f 2 = b) (h3 : f 3 = c) (h4 : f 4 = d) : upd (stk a b c d) j x = stk (upd f (j + 1) x 1) (upd f (j + 1) x 2) (upd f (j + 1) x 3) (upd f (j + 1) x 4) := by
  subst h1; subst h2; subst h3; subst h4
  funext k
  match j, hj with
  | 0, _ => by_cases h : k = 0 <;> simp [upd, stk, h]
  | 1, _ => by_cases h : k = 1 <;> simp [upd, stk, h]
  | 2, _ => by_cases h : k = 2 <;> simp [upd, stk, h]
  | 3, _ => by_cases h : k = 3 <;> simp [upd, stk, h]
theorem cw_stock {cI cC cT : ClassId} {A : Nat → Nat} {nc nt : Nat} {f g : Nat → Int32} (j : Nat) (hj : j < 4) (x : Int32) : (CW cI cC cT A nc nt f g).set 1 (A 1, .inl (cI, 4, .inl (upd (stk (f 1) (f 2) (f 3) (f 4)) j x))) = CW cI cC cT A nc nt (upd f (j + 1) x) g := by
  rw [stk_upd j hj x f rfl rfl rfl rfl]
  match j, hj with
  | 0, _ => rfl
  | 1, _ => rfl
  | 2, _ => rfl
  | 3, _ => rfl
theorem cw_churn {cI cC cT : ClassId} {A : Nat → Nat} {nc nt : Nat} {f g : Nat → Int32} (i : Nat) (hi : i < 4) (x y z : Int32) : (CW cI cC cT A nc nt f g).set (5 + i) (A (5 + i), .inr (1, [.int x, .int y, .int z])) = CW cI cC cT A nc nt (set3 f (7 + 3 * i) x y z) g := by
  match i, hi with
  | 0, _ => rfl
  | 1, _ => rfl
  | 2, _ => rfl
  | 3, _ => rfl
theorem cw_tub {cI cC cT : ClassId} {A : Nat → Nat} {nc nt : Nat} {f g : Nat → Int32} (i : Nat) (hi : i < 6) (x y z : Int32) : (CW cI cC cT A nc nt f g).set (9 + i) (A (9 + i), .inr (2, [.int x, .int y, .int z])) = CW cI cC cT A nc nt (set3 f (19 + 3 * i) x y z) g := by
  match i, hi with
  | 0, _ => rfl
  | 1, _ => rfl
  | 2, _ => rfl
  | 3, _ => rfl
  | 4, _ => rfl
  | 5, _ => rfl
theorem cw_gchurn {cI cC cT : ClassId} {A : Nat → Nat} {nc nt : Nat} {f g : Nat → Int32} (i : Nat) (hi : i < 4) : (CW cI cC cT A nc nt f g)[5 + i]? = some (A (5 + i), .inr (1, [.int (f (7 + 3 * i)), .int (f (8 + 3 * i)), .int (f (9 + 3 * i))])) := by
  match i, hi with
  | 0, _ => rfl
  | 1, _ => rfl
  | 2, _ => rfl
  | 3, _ => rfl
theorem cw_gtub {cI cC cT : ClassId} {A : Nat → Nat} {nc nt : Nat} {f g : Nat → Int32} (i : Nat) (hi : i < 6) : (CW cI cC cT A nc nt f g)[9 + i]? = some (A (9 + i), .inr (2, [.int (f (19 + 3 * i)), .int (f (20 + 3 * i)), .int (f (21 + 3 * i))])) := by
  match i, hi with
  | 0, _ => rfl
  | 1, _ => rfl
  | 2, _ => rfl
  | 3, _ => rfl
  | 4, _ => rfl
  | 5, _ => rfl
section KR
variable {p : Program} {l : Launch} {e : Env} {R : Room} {s : State} {m : MethodId} {args : Array Value} {below : List Frame} {meth : Method} {c : Code} {H : Heap} {locs : List Loc} {cells slots : Nat} {Q : State → Prop}
variable {cc : ByteArray} {pc : Nat} {ls : Array Slot} {rest : List Value} {A : Nat → Prop} {D : va_G} {tys : List (ClassId × FieldType)} {ws ws' : va_W} {a : Nat} {cA : ClassId} {n : Nat}
theorem nin {i : Int32} {j n : Nat} (hi : i = nI j) (hj : j < n) (hn : n < 2 ^ 31) : vp_in i n := by subst hi; exact vp_in_nI hj hn
theorem w_ild (hx : p.tables.exec = Jvm.exec) (hb : c.code = cc) (hK : va_K D vwCl tys s) (hP : va_P D vwCl ws H) (q0 t0 : Nat) {f : Nat → Int32} (ha : ws[q0]? = some (a, .inl (cA, n, .inl f))) (ht : tys[t0]? = some (cA, .int)) {i v : Int32} (j : Nat) (hi : i = nI j) (hj : j < n) (hn : n < 2 ^ 31) (hv : f j = v) (hdg : decode cc pc = .ok (.iaload, 1))
    (kk : W p l e R s m args below meth c H locs cells slots Q (F0 m (pc + 1) ls (.int v :: rest))) : W p l e R s m args below meth c H locs cells slots Q (F0 m pc ls (.int i :: .ref a :: rest)) := by
  refine va_iald hx hb hK hP q0 t0 ha ht (nin hi hj hn) hdg ?_
  rw [hi, nI_clamp (Nat.lt_trans hj hn), hv]
  exact kk
theorem w_ist (hx : p.tables.exec = Jvm.exec) (hb : c.code = cc) (hK : va_K D vwCl tys s) (hP : va_P D vwCl ws H) (hD : va_D A ws) (hS : va_S A s.heap H locs) (q0 t0 : Nat) {f : Nat → Int32} (ha : ws[q0]? = some (a, .inl (cA, n, .inl f))) (ht : tys[t0]? = some (cA, .int)) {i x : Int32} (j : Nat) (hi : i = nI j) (hj : j < n) (hn : n < 2 ^ 31) (hw : ws.set q0 (a, .inl (cA, n, .inl (upd f j x))) = ws') (hdg : decode cc pc = .ok (.iastore, 1))
    (kk : ∀ (H1 : Heap) (locs1 : List Loc), va_P D vwCl ws' H1 → va_D A ws' → va_S A s.heap H1 locs1 → W p l e R s m args below meth c H1 locs1 cells slots Q (F0 m (pc + 1) ls rest)) : W p l e R s m args below meth c H locs cells slots Q (F0 m pc ls (.int x :: .int i :: .ref a :: rest)) := by
  refine va_iast hx hb hK hP hD hS q0 t0 ha ht (nin hi hj hn) hdg (fun H1 locs1 hP1 hD1 hS1 => ?_)
  rw [hi, nI_clamp (Nat.lt_trans hj hn), hw] at hP1 hD1
  exact kk H1 locs1 hP1 hD1 hS1
theorem w_lst (hx : p.tables.exec = Jvm.exec) (hb : c.code = cc) (hK : va_K D vwCl tys s) (hP : va_P D vwCl ws H) (hD : va_D A ws) (hS : va_S A s.heap H locs) (q0 t0 : Nat) {f : Nat → Int64} (ha : ws[q0]? = some (a, .inl (cA, n, .inr (.inl f)))) (ht : tys[t0]? = some (cA, .long)) {i : Int32} {x : Int64} (j : Nat) (hi : i = nI j) (hj : j < n) (hn : n < 2 ^ 31) (hw : ws.set q0 (a, .inl (cA, n, .inr (.inl (vp_updL f j x)))) = ws') (hdg : decode cc pc = .ok (.lastore, 1))
    (kk : ∀ (H1 : Heap) (locs1 : List Loc), va_P D vwCl ws' H1 → va_D A ws' → va_S A s.heap H1 locs1 → W p l e R s m args below meth c H1 locs1 cells slots Q (F0 m (pc + 1) ls rest)) : W p l e R s m args below meth c H locs cells slots Q (F0 m pc ls (.long x :: .int i :: .ref a :: rest)) := by
  refine va_last hx hb hK hP hD hS q0 t0 ha ht (nin hi hj hn) hdg (fun H1 locs1 hP1 hD1 hS1 => ?_)
  rw [hi, nI_clamp (Nat.lt_trans hj hn), hw] at hP1 hD1
  exact kk H1 locs1 hP1 hD1 hS1
theorem w_lld (hx : p.tables.exec = Jvm.exec) (hb : c.code = cc) (hK : va_K D vwCl tys s) (hP : va_P D vwCl ws H) (q0 t0 : Nat) {f : Nat → Int64} (ha : ws[q0]? = some (a, .inl (cA, n, .inr (.inl f)))) (ht : tys[t0]? = some (cA, .long)) {i : Int32} {v : Int64} (j : Nat) (hi : i = nI j) (hj : j < n) (hn : n < 2 ^ 31) (hv : f j = v) (hdg : decode cc pc = .ok (.laload, 1))
    (kk : W p l e R s m args below meth c H locs cells slots Q (F0 m (pc + 1) ls (.long v :: rest))) : W p l e R s m args below meth c H locs cells slots Q (F0 m pc ls (.int i :: .ref a :: rest)) := by
  refine va_lald hx hb hK hP q0 t0 ha ht (nin hi hj hn) hdg ?_
  rw [hi, nI_clamp (Nat.lt_trans hj hn), hv]
  exact kk
theorem w_qld (hx : p.tables.exec = Jvm.exec) (hb : c.code = cc) (hK : va_K D vwCl tys s) (hP : va_P D vwCl ws H) (q0 t0 : Nat) {C : String} {f : Nat → Option Nat} (ha : ws[q0]? = some (a, .inl (cA, n, .inr (.inr (.inr (.inr f)))))) (ht : tys[t0]? = some (cA, .object C)) {i : Int32} {v : Nat} (j : Nat) (hi : i = nI j) (hj : j < n) (hn : n < 2 ^ 31) (hv : f j = some v) (hdg : decode cc pc = .ok (.aaload, 1))
    (kk : W p l e R s m args below meth c H locs cells slots Q (F0 m (pc + 1) ls (.ref v :: rest))) : W p l e R s m args below meth c H locs cells slots Q (F0 m pc ls (.int i :: .ref a :: rest)) := by
  refine va_aldq hx hb hK hP q0 t0 ha ht (nin hi hj hn) hdg ?_
  rw [hi, nI_clamp (Nat.lt_trans hj hn), hv]
  exact kk
theorem w_put {own ref C : String} {T : u_T} {N ci index : Nat} {Ts : List Cond} {ty0 : Nat → FieldType} {fs : List Value} {v : Value} (hx : p.tables.exec = Jvm.exec) (hb : c.code = cc) (hts : ∀ w ∈ Ts, w.before args s = true) (hin : ∀ w ∈ u_ws C T N, w ∈ Ts) (hty : ∀ k, k < N → parseFieldDescriptor (T k).2.2.1 = some (ty0 k)) (hnm : ∀ a, a < N → ∀ b, b < N → a ≠ b → (T a).2.1 ≠ (T b).2.1) (hown : s.vm.findClass own = some m.cls) (hK : va_K D vwCl tys s) (hP : va_P D vwCl ws H) (hD : va_D A ws) (hS : va_S A s.heap H locs)
    (q0 : Nat) (he : ws[q0]? = some (a, .inr (ci, fs))) (hc : vwCl[ci]? = some (C, T, N)) (k : Nat) (hk : k < N) (hlink : Cond.fieldLink own index ref (T k).2.1 (T k).2.2.1 ∈ Ts) (href : (T k).1 = ref) (hfin : (T k).2.2.2 = false) (hn : narrow (ty0 k) v = v) (hfit : fits (ty0 k) v = true) (hl : k < fs.length) (hw : ws.set q0 (a, .inr (ci, fs.set k v)) = ws') (hdg : decode cc pc = .ok (.putfield index, 3))
    (kk : ∀ (H1 : Heap) (locs1 : List Loc), va_P D vwCl ws' H1 → va_D A ws' → va_S A s.heap H1 locs1 → W p l e R s m args below meth c H1 locs1 cells slots Q (F0 m (pc + 3) ls rest)) : W p l e R s m args below meth c H locs cells slots Q (F0 m pc ls (v :: .ref a :: rest)) := by
  subst hw
  exact va_put hx hb hts hin ty0 hty hnm hown hK hP hD hS q0 he hc k hk (hts _ hlink) (fun x h => href ▸ h) hfin (hty k hk) hn hfit hl hdg kk
theorem w_putN {own ref C : String} {T : u_T} {N ci index : Nat} {Ts : List Cond} {ty0 : Nat → FieldType} {fs : List Value} {v : Value} (hx : p.tables.exec = Jvm.exec) (hb : c.code = cc) (hts : ∀ w ∈ Ts, w.before args s = true) (hin : ∀ w ∈ u_ws C T N, w ∈ Ts) (hty : ∀ k, k < N → parseFieldDescriptor (T k).2.2.1 = some (ty0 k)) (hnm : ∀ a, a < N → ∀ b, b < N → a ≠ b → (T a).2.1 ≠ (T b).2.1) (hown : s.vm.findClass own = some m.cls) (hK : va_K D vwCl tys s) (hST : ST A s) (hP : va_P D vwCl ws H) (hD : va_D A ws) (hS : va_S A s.heap H locs)
    (q0 : Nat) (he : ws[q0]? = some (a, .inr (ci, fs))) (hc : vwCl[ci]? = some (C, T, N)) (k : Nat) (hk : k < N) (i : Nat) (hlink : NF[i]? = some (own, index, ref, (T k).2.1, (T k).2.2.1)) (href : (T k).1 = ref) (hfin : (T k).2.2.2 = false) (hn : narrow (ty0 k) v = v) (hfit : fits (ty0 k) v = true) (hl : k < fs.length) (hw : ws.set q0 (a, .inr (ci, fs.set k v)) = ws') (hdg : decode cc pc = .ok (.putfield index, 3))
    (kk : ∀ (H1 : Heap) (locs1 : List Loc), va_P D vwCl ws' H1 → va_D A ws' → va_S A s.heap H1 locs1 → W p l e R s m args below meth c H1 locs1 cells slots Q (F0 m (pc + 3) ls rest)) : W p l e R s m args below meth c H locs cells slots Q (F0 m pc ls (v :: .ref a :: rest)) := by
  subst hw
  exact va_putN hx hb hts hin ty0 hty hnm hown hK hP hD hS q0 he hc k hk (va_Nw.use rfl (hST.1 _ (List.mem_of_getElem? hlink))) (fun x h => href ▸ h) hfin (hty k hk) hn hfit hl hdg kk
theorem w_get {own ref C : String} {T : u_T} {N ci index : Nat} {Ts : List Cond} {fs : List Value} {v : Value} (hx : p.tables.exec = Jvm.exec) (hb : c.code = cc) (hts : ∀ w ∈ Ts, w.before args s = true) (hin : ∀ w ∈ u_ws C T N, w ∈ Ts) (hown : s.vm.findClass own = some m.cls) (hK : va_K D vwCl tys s) (hP : va_P D vwCl ws H)
    (q0 : Nat) (he : ws[q0]? = some (a, .inr (ci, fs))) (hc : vwCl[ci]? = some (C, T, N)) (k : Nat) (hk : k < N) (hlink : Cond.fieldLink own index ref (T k).2.1 (T k).2.2.1 ∈ Ts) (href : (T k).1 = ref) (hv : fs[k]? = some v) (hdg : decode cc pc = .ok (.getfield index, 3))
    (kk : W p l e R s m args below meth c H locs cells slots Q (F0 m (pc + 3) ls (v :: rest))) : W p l e R s m args below meth c H locs cells slots Q (F0 m pc ls (.ref a :: rest)) :=
  va_get hx hb hts hin hown hK hP q0 he hc k hk (hts _ hlink) (fun x h => href ▸ h) hv hdg kk
theorem w_getN {own ref C : String} {T : u_T} {N ci index : Nat} {Ts : List Cond} {fs : List Value} {v : Value} (hx : p.tables.exec = Jvm.exec) (hb : c.code = cc) (hts : ∀ w ∈ Ts, w.before args s = true) (hin : ∀ w ∈ u_ws C T N, w ∈ Ts) (hown : s.vm.findClass own = some m.cls) (hK : va_K D vwCl tys s) (hST : ST A s) (hP : va_P D vwCl ws H)
    (q0 : Nat) (he : ws[q0]? = some (a, .inr (ci, fs))) (hc : vwCl[ci]? = some (C, T, N)) (k : Nat) (hk : k < N) (i : Nat) (hlink : NF[i]? = some (own, index, ref, (T k).2.1, (T k).2.2.1)) (href : (T k).1 = ref) (hv : fs[k]? = some v) (hdg : decode cc pc = .ok (.getfield index, 3))
    (kk : W p l e R s m args below meth c H locs cells slots Q (F0 m (pc + 3) ls (v :: rest))) : W p l e R s m args below meth c H locs cells slots Q (F0 m pc ls (.ref a :: rest)) :=
  va_getN hx hb hts hin hown hK hP q0 he hc k hk (va_Nw.use rfl (hST.1 _ (List.mem_of_getElem? hlink))) (fun x h => href ▸ h) hv hdg kk
end KR
end
section
/-! rows that make, copy, and read tables; constructors -/
theorem cA_eq {D : va_G} {tys : List (ClassId × FieldType)} {s : State} {cA cB : ClassId} {ty : FieldType} {i j : Nat} (hK : va_K D vwCl tys s) (h1 : tys[i]? = some (cA, ty)) (h2 : tys[j]? = some (cB, ty)) : cA = cB := by
  have a := (hK.2 i _ h1).2
  have b := (hK.2 j _ h2).2
  cases ty <;> first
    | exact Option.some.inj (a.symm.trans b)
    | (obtain ⟨kA, c1, p1, p2, p3, p4⟩ := a
       obtain ⟨kB, c2, q1, q2, q3, q4⟩ := b
       exact Option.some.inj (p4.symm.trans q4))
theorem K_app {D : va_G} {tys t2 : List (ClassId × FieldType)} {s : State} (h : va_K D vwCl (tys ++ t2) s) : va_K D vwCl tys s := ⟨h.1, fun k q hk => h.2 k q (by rw [List.getElem?_append_left (List.getElem?_eq_some_iff.mp hk).1]; exact hk)⟩
theorem P_arr {D : va_G} {ws : va_W} {H : Heap} (h : va_P D vwCl ws H) (k : Nat) {a n : Nat} {cA : ClassId} {f f' : Nat → Int32} (hk : ws[k]? = some (a, .inl (cA, n, .inl f))) (hf : ∀ j, j < n → f j = f' j) : va_P D vwCl (ws.set k (a, .inl (cA, n, .inl f'))) H := by
  intro i q hq
  by_cases hik : i = k
  · subst hik
    rw [List.getElem?_set_self (List.getElem?_eq_some_iff.mp hk).1] at hq
    cases hq
    have h1 : H[a]? = some (vp_cell cA (n, .inl f)) := h i _ hk
    show H[a]? = some (vp_cell cA (n, .inl f'))
    rw [h1, vp_cell_i, vp_cell_i]
    congr 1
    unfold arrV
    congr 1
    apply Array.ext
    · simp
    · intro j h1 h2
      simp only [Array.size_ofFn] at h1
      simp [hf j (by simpa using h1)]
  · rw [List.getElem?_set_ne (Ne.symm hik)] at hq
    exact h i q hq
theorem P_qarr {D : va_G} {ws : va_W} {H : Heap} (h : va_P D vwCl ws H) (k : Nat) {a n : Nat} {cA : ClassId} {f f' : Nat → Option Nat} (hk : ws[k]? = some (a, .inl (cA, n, .inr (.inr (.inr (.inr f)))))) (hf : ∀ j, j < n → f j = f' j) : va_P D vwCl (ws.set k (a, .inl (cA, n, .inr (.inr (.inr (.inr f')))))) H := by
  intro i q hq
  by_cases hik : i = k
  · subst hik
    rw [List.getElem?_set_self (List.getElem?_eq_some_iff.mp hk).1] at hq
    cases hq
    have h1 : H[a]? = some (vp_cell cA (n, .inr (.inr (.inr (.inr f))))) := h i _ hk
    show H[a]? = some (vp_cell cA (n, .inr (.inr (.inr (.inr f')))))
    rw [h1, vp_cell_q, vp_cell_q]
    congr 1
    unfold arrV
    congr 1
    apply Array.ext
    · simp
    · intro j h1 h2
      simp only [Array.size_ofFn] at h1
      simp [hf j (by simpa using h1)]
  · rw [List.getElem?_set_ne (Ne.symm hik)] at hq
    exact h i q hq
theorem Jn_tail (L wc w1 : va_W) (h : w1.map (fun q => q.1) = wc.map (fun q => q.1)) : Jn (L ++ wc) wc w1 (L ++ w1) := by
  have := Jn_mid L wc w1 [] h
  simpa using this
theorem Jn_head (wc w1 R : va_W) (h : w1.map (fun q => q.1) = wc.map (fun q => q.1)) : Jn (wc ++ R) wc w1 (w1 ++ R) := Jn_mid [] wc w1 R h
theorem Jn_two {ws : va_W} (k k2 a b : Nat) (e e' e2 : va_E) (h : ws[k]? = some (a, e)) (h2 : ws[k2]? = some (b, e2)) (hne : k ≠ k2) : Jn ws [(a, e), (b, e2)] [(a, e'), (b, e2)] (ws.set k (a, e')) := by
  have hab : ∀ A, va_D A ws → a ≠ b := fun A hD q => hne (hD.1 k k2 _ _ h h2 q)
  refine ⟨fun q hq => ?_, fun A hD => ?_, fun A hD => hD.set h, fun A hD q hq => ?_⟩
  · rcases List.mem_cons.mp hq with q1 | q1
    · rw [q1]; exact List.mem_of_getElem? h
    · rw [List.mem_singleton.mp q1]; exact List.mem_of_getElem? h2
  · have h9 := hab A hD
    refine dn_to (by simp [h9]) (fun q hq => ?_)
    rcases List.mem_cons.mp hq with q1 | q1
    · rw [q1]; exact hD.2 k _ h
    · rw [List.mem_singleton.mp q1]; exact hD.2 k2 _ h2
  · obtain ⟨j, hj⟩ := List.getElem?_of_mem hq
    by_cases hjk : j = k
    · subst hjk
      rw [List.getElem?_set_self (List.getElem?_eq_some_iff.mp h).1] at hj
      cases hj
      exact Or.inl List.mem_cons_self
    · rw [List.getElem?_set_ne (Ne.symm hjk)] at hj
      by_cases hj2 : j = k2
      · subst hj2
        rw [h2] at hj
        cases hj
        exact Or.inl (List.mem_cons_of_mem _ (List.mem_singleton.mpr rfl))
      · refine Or.inr ⟨List.mem_of_getElem? hj, fun p hp he => ?_⟩
        rcases List.mem_cons.mp hp with q1 | q1
        · rw [q1] at he; exact hjk (hD.1 k j _ _ h hj he).symm
        · rw [List.mem_singleton.mp q1] at he; exact hj2 (hD.1 k2 j _ _ h2 hj he).symm
/-! a constructor: new cells come -/
def Qn (B : va_W → Prop) (D : va_G) (A : Nat → Prop) : Array Value → State → Outcome → State → Prop := fun _ st oc t => oc = .returned none ∧ (∃ w1, B w1 ∧ va_P D vwCl w1 t.heap ∧ va_D A w1) ∧ va_F A st t
def MN (l : Launch) (y : MethodName) (ws : List Cond) (rm : Room) (D : va_G) (tys : List (ClassId × FieldType)) (av : List Value) (wc : va_W) (B : va_W → Prop) (mc ms : Nat) : Prop := ∀ sz : Nat, Met l y ws rm (Pd D tys av wc sz) (Qn B D (va_A wc sz)) mc ms (va_A wc sz)
def QN (below : List Frame) (D : va_G) (B : va_W → Prop) (A : Nat → Prop) (args : Array Value) (s : State) (mc ms : Nat) : State → Prop := MQ below (Qn B D A) args s mc ms A
theorem MN_of {l : Launch} {y : MethodName} {ws ws' : List Cond} {rm : Room} {D : va_G} {tys : List (ClassId × FieldType)} {av : List Value} {wc : va_W} {B : va_W → Prop} {mc ms : Nat} {cc : ByteArray} {maxL : Nat} {ret : Option FieldType} (hy : plainFor y = true) (hw : ws = .code y cc maxL ret :: ws') (hlen : (lg_sl av).length ≤ maxL)
    (body : ∀ p e s m args below meth c A, Bd p s m meth c y cc maxL ret args ws D tys A wc → ∀ ls, lv_has ls maxL (lv_args 0 av) → W p l e rm s m args below meth c s.heap [] 0 0 (QN below D B A args s mc ms) (F0 m 0 ls [])) : MN l y ws rm D tys av wc B mc ms := by
  intro sz
  refine Met_ofF (cc := cc) (maxL := maxL) (ret := ret) hy hw ?_
  intro p e s m args below meth c s₁ B hml hv
  obtain ⟨rfl, hsz, hP, hK, hD0, hST⟩ := hv
  subst hsz
  have h := body p e s m av.toArray below meth c (va_A wc s.heap.size) ⟨B.exec, B.bytes, hml, B.returns, findClass_of_methodNamed B.named, atoms_spec (ws := ws) B.pre, B.notSynchronized, hK, hP, hD0.self (sz := s.heap.size), fun q h => Or.inr h, hST, (name_of_methodNamed B.named B.method).1⟩ _ (lv_entry av hlen)
  rw [lg_entry_eq]
  exact h
section KM
variable {p : Program} {l : Launch} {e : Env} {R : Room} {s : State} {m : MethodId} {args : Array Value} {below : List Frame} {meth : Method} {c : Code} {H : Heap} {locs : List Loc} {cells slots : Nat} {Q : State → Prop}
variable {y : MethodName} {bytes cc : ByteArray} {maxL nL mc ms n index pc : Nat} {ret : Option FieldType} {wsY Ts : List Cond} {rm : Room} {own C host : String} {b : Addr} {As rest st0 st1 av : List Value} {ls : Array Slot}
variable {D : va_G} {tys : List (ClassId × FieldType)} {ws wc w1 ws' L : va_W} {o : Option Value} {A : Nat → Prop} {B : va_W → Prop} {a : Nat} {cA : ClassId}
theorem cN_go {a : Array Value} (hr : va_Run p l e R s m args below meth c H locs cells slots mc ms (F0 m pc ls st0) rest (Qn B D (va_A wc H.size) a) (va_A wc H.size)) (hP : va_P D vwCl (L ++ wc) H) (hD : va_D A (L ++ wc)) (hS : va_S A s.heap H locs) (hA : ∀ q : Nat, s.heap.size ≤ q → A q)
    (kk : ∀ (w1 : va_W), B w1 → ∀ (H1 : Heap) (locs1 : List Loc), va_P D vwCl (L ++ w1) H1 → va_D A (L ++ w1) → va_S A s.heap H1 locs1 → W p l e R s m args below meth c H1 locs1 (cells + mc) (slots + ms) Q (F0 m (pc + 3) ls rest)) : W p l e R s m args below meth c H locs cells slots Q (F0 m pc ls st0) := by
  intro T hT X
  obtain ⟨v, st₀, t, T', Ls, h0, X', hL, e1, e2, ⟨hv, ⟨w1, hB, hP1, hD1⟩, hz, hk⟩, st⟩ := hr T hT X
  cases hv
  rw [h0] at hz hk
  have J : Jn (L ++ wc) wc wc (L ++ wc) := Jn_tail L wc wc rfl
  have hF := J.free hD hS hA
  obtain ⟨n1, n2⟩ := dn_of hD
  simp only [List.map_append, List.nodup_append] at n1
  have hap : ∀ q ∈ L, q.1 < H.size ∧ ¬ va_A wc H.size q.1 := by
    intro q hq
    obtain ⟨k, hk9⟩ := List.getElem?_of_mem (List.mem_append_left wc hq)
    have hl := (hP k q hk9).lt
    refine ⟨hl, ?_⟩
    rintro (⟨i, e, hi⟩ | hi)
    · exact n1.2.2 q.1 (List.mem_map.mpr ⟨q, hq, rfl⟩) q.1 (List.mem_map.mpr ⟨(q.1, e), List.mem_of_getElem? hi, rfl⟩) rfl
    · omega
  obtain ⟨m1, m2⟩ := dn_of hD1
  obtain ⟨t2, a1, b1⟩ := kk w1 hB T'.heap (locs ++ Ls)
    (by
      intro k q hq
      rcases List.mem_append.mp (List.mem_of_getElem? hq) with h | h
      · obtain ⟨g1, g2⟩ := hap q h
        obtain ⟨k2, hk2⟩ := List.getElem?_of_mem (List.mem_append_left wc h)
        refine (hP k2 q hk2).kept ?_
        rw [e1]
        exact hk q.1 g1 g2
      · obtain ⟨k2, hk2⟩ := List.getElem?_of_mem h
        rw [e1]
        exact hP1 k2 q hk2)
    (by
      refine dn_to ?_ (fun q hq => ?_)
      · simp only [List.map_append, List.nodup_append]
        refine ⟨n1.1, m1, fun x hx z hz9 he => ?_⟩
        obtain ⟨q, hq, rfl⟩ := List.mem_map.mp hx
        obtain ⟨r, hr9, rfl⟩ := List.mem_map.mp hz9
        exact (hap q hq).2 (by rw [he]; exact m2 r hr9)
      · rcases List.mem_append.mp hq with h | h
        · exact n2 q (List.mem_append_left _ h)
        · exact hF _ (m2 q h))
    ⟨Nat.le_trans hS.1 (by rw [e1]; exact hz), fun q h1 h2 => by rw [e1, hk q (Nat.lt_of_lt_of_le h1 hS.1) (fun z => h2 (hF q z))]; exact hS.2.1 q h1 h2, fun q hq => by
      rcases List.mem_append.mp hq with h | h
      · exact hS.2.2 q h
      · exact hF _ (hL q h)⟩ T' rfl X'
  exact ⟨t2, st t2 a1, b1⟩
theorem cN_I (S : CallFix p m c cc nL s args Ts own) (hM : MN l y wsY rm D tys (.ref b :: As) wc B mc ms) (cw : CallB R s args own index y bytes maxL none wsY rm mc ms n ∧ y.name = "<init>" ∧ (Cond.instanceMethod y).before args s = true) (hK : va_K D vwCl tys s) (hP : va_P D vwCl (L ++ wc) H) (hD : va_D A (L ++ wc)) (hS : va_S A s.heap H locs) (hA : ∀ q : Nat, s.heap.size ≤ q → A q) (hST : ST A s)
    (hn : As.length = n) (hsize : ls.size = nL) (hstack : st0 = As.reverse ++ .ref b :: rest) (hW : (rest.map fun v => v.category).sum ≤ 8) (hdg : decode cc pc = .ok (.invokespecial index, 3)) (hf : cells + mc ≤ R.cells ∧ slots + ms ≤ R.slots)
    (kk : ∀ (w1 : va_W), B w1 → ∀ (H1 : Heap) (locs1 : List Loc), va_P D vwCl (L ++ w1) H1 → va_D A (L ++ w1) → va_S A s.heap H1 locs1 → W p l e R s m args below meth c H1 locs1 (cells + mc) (slots + ms) Q (F0 m (pc + 3) ls rest)) : W p l e R s m args below meth c H locs cells slots Q (F0 m pc ls st0) :=
  cN_go (va_runI S (hM H.size) cw ⟨pd_blind, pd_at hK hP hD hS hA hST (Jn_tail L wc wc rfl)⟩ rfl hn hsize hstack (lv_room hW) hdg hf) hP hD hS hA kk
theorem eN_v (hx : p.tables.exec = Jvm.exec) (hb : c.code = cc) (hr : meth.sig.returnType = none) (hlocks : meth.locks = false) (hB : B w1) (hP : va_P D vwCl w1 H) (hD : va_D A w1) (hS : va_S A s.heap H locs) (hdg : decode cc pc = .ok (.return_, 1)) (hc : cells ≤ mc) (hs : slots ≤ ms) :
    W p l e R s m args below meth c H locs cells slots (QN below D B A args s mc ms) (F0 m pc ls []) :=
  W.widen hc hs (W.vret hx hb hr (fun t ht _ => ⟨rfl, ⟨w1, hB, by rw [ht]; exact hP, hD⟩, hS.F ht⟩) hS.2.2 hdg)
theorem w_newi (hx : p.tables.exec = Jvm.exec) (hb : c.code = cc) (harr : (Cond.arrayClass .int).before args s = true) (hK : va_K D vwCl tys s) (hP : va_P D vwCl ws H) (hD : va_D A ws) (hS : va_S A s.heap H locs) (hA : ∀ q : Nat, s.heap.size ≤ q → A q) (ht0 : tys[0]? = some (cA, .int))
    {n : Int32} (N : Nat) (hN : n = nI N) (hNl : N ≤ 1000) (hcells : cells + 1 ≤ R.cells) (hslots : slots + N ≤ R.slots) (hdg : decode cc pc = .ok (.newarray .int, 2))
    (kk : ∀ (q : Nat) (H1 : Heap), va_P D vwCl (ws ++ [(q, .inl (cA, N, .inl (fun _ => 0)))]) H1 → va_D A (ws ++ [(q, .inl (cA, N, .inl (fun _ => 0)))]) → va_S A s.heap H1 locs → W p l e R s m args below meth c H1 locs (cells + 1) (slots + N) Q (F0 m (pc + 2) ls (.ref q :: rest))) : W p l e R s m args below meth c H locs cells slots Q (F0 m pc ls (.int n :: rest)) := by
  have hc : n.toNatClampNeg = N := by rw [hN]; exact nI_clamp (by omega)
  refine va_newa (atype := .int) hx hb harr (ty := .int) rfl hK hP hD hS hA (N' := N) (a0 := (N, .inl (fun _ => 0))) (fun cA => rfl) (by rw [hN]; exact nI_pos (by omega)) hc (by show N * 4 ≤ _; omega) hcells hslots hdg (fun q cB H1 hK1 hP1 hD1 hS1 => ?_)
  have e : cB = cA := by
    refine cA_eq hK1 (ty := .int) (i := tys.length) (j := 0) (by simp) ?_
    rw [List.getElem?_append_left (List.getElem?_eq_some_iff.mp ht0).1]
    exact ht0
  subst e
  exact kk q H1 hP1 hD1 hS1
theorem w_newl (hx : p.tables.exec = Jvm.exec) (hb : c.code = cc) (harr : (Cond.arrayClass .long).before args s = true) (hK : va_K D vwCl tys s) (hP : va_P D vwCl ws H) (hD : va_D A ws) (hS : va_S A s.heap H locs) (hA : ∀ q : Nat, s.heap.size ≤ q → A q) (ht0 : tys[3]? = some (cA, .long))
    {n : Int32} (N : Nat) (hN : n = nI N) (hNl : N ≤ 1000) (hcells : cells + 1 ≤ R.cells) (hslots : slots + N ≤ R.slots) (hdg : decode cc pc = .ok (.newarray .long, 2))
    (kk : ∀ (q : Nat) (H1 : Heap), va_P D vwCl (ws ++ [(q, .inl (cA, N, .inr (.inl (fun _ => 0))))]) H1 → va_D A (ws ++ [(q, .inl (cA, N, .inr (.inl (fun _ => 0))))]) → va_S A s.heap H1 locs → W p l e R s m args below meth c H1 locs (cells + 1) (slots + N) Q (F0 m (pc + 2) ls (.ref q :: rest))) : W p l e R s m args below meth c H locs cells slots Q (F0 m pc ls (.int n :: rest)) := by
  have hc : n.toNatClampNeg = N := by rw [hN]; exact nI_clamp (by omega)
  refine va_newa (atype := .long) hx hb harr (ty := .long) rfl hK hP hD hS hA (N' := N) (a0 := (N, .inr (.inl (fun _ => 0)))) (fun cA => rfl) (by rw [hN]; exact nI_pos (by omega)) hc (by show N * 8 ≤ _; omega) hcells hslots hdg (fun q cB H1 hK1 hP1 hD1 hS1 => ?_)
  have e : cB = cA := by
    refine cA_eq hK1 (ty := .long) (i := tys.length) (j := 3) (by simp) ?_
    rw [List.getElem?_append_left (List.getElem?_eq_some_iff.mp ht0).1]
    exact ht0
  subst e
  exact kk q H1 hP1 hD1 hS1
theorem w_newq {index : Nat} (hx : p.tables.exec = Jvm.exec) (hb : c.code = cc) (hown : s.vm.findClass own = some m.cls) (hcl : (Cond.classLink own index C).before args s = true) (hover : va_AO C s) (hK : va_K D vwCl tys s) (hP : va_P D vwCl ws H) (hD : va_D A ws) (hS : va_S A s.heap H locs) (hA : ∀ q : Nat, s.heap.size ≤ q → A q) (t0 : Nat) (ht0 : tys[t0]? = some (cA, .object C))
    {n : Int32} (N : Nat) (hN : n = nI N) (hNl : N ≤ 1000) (hcells : cells + 1 ≤ R.cells) (hslots : slots + N ≤ R.slots) (hdg : decode cc pc = .ok (.anewarray index, 3))
    (kk : ∀ (q : Nat) (H1 : Heap), va_P D vwCl (ws ++ [(q, .inl (cA, N, .inr (.inr (.inr (.inr (fun _ => none))))))]) H1 → va_D A (ws ++ [(q, .inl (cA, N, .inr (.inr (.inr (.inr (fun _ => none))))))]) → va_S A s.heap H1 locs → W p l e R s m args below meth c H1 locs (cells + 1) (slots + N) Q (F0 m (pc + 3) ls (.ref q :: rest))) : W p l e R s m args below meth c H locs cells slots Q (F0 m pc ls (.int n :: rest)) := by
  have hc : n.toNatClampNeg = N := by rw [hN]; exact nI_clamp (by omega)
  refine va_newq hx hb hown hcl hover hK hP hD hS hA (by rw [hN]; exact nI_pos (by omega)) hc (by omega) hcells hslots hdg (fun q cB H1 hK1 hP1 hD1 hS1 => ?_)
  have e : cB = cA := by
    refine cA_eq hK1 (ty := .object C) (i := tys.length) (j := t0) (by simp) ?_
    rw [List.getElem?_append_left (List.getElem?_eq_some_iff.mp ht0).1]
    exact ht0
  subst e
  exact kk q H1 hP1 hD1 hS1
theorem w_qst (hx : p.tables.exec = Jvm.exec) (hb : c.code = cc) (hK : va_K D vwCl tys s) (hP : va_P D vwCl ws H) (hD : va_D A ws) (hS : va_S A s.heap H locs) (q0 t0 qk ci : Nat) {r : vw_C} {n v : Nat} {vs : List Value} {f : Nat → Option Nat} (ha : ws[q0]? = some (a, .inl (cA, n, .inr (.inr (.inr (.inr f)))))) (ht : tys[t0]? = some (cA, .object r.1)) (hv : ws[qk]? = some (v, .inr (ci, vs))) (hc : vwCl[ci]? = some r) {i : Int32} (j : Nat) (hi : i = nI j) (hj : j < n) (hn : n < 2 ^ 31)
    (hw : ws.set q0 (a, .inl (cA, n, .inr (.inr (.inr (.inr (va_up f j (some v))))))) = ws') (hdg : decode cc pc = .ok (.aastore, 1))
    (kk : ∀ (H1 : Heap) (locs1 : List Loc), va_P D vwCl ws' H1 → va_D A ws' → va_S A s.heap H1 locs1 → W p l e R s m args below meth c H1 locs1 cells slots Q (F0 m (pc + 1) ls rest)) : W p l e R s m args below meth c H locs cells slots Q (F0 m pc ls (.ref v :: .int i :: .ref a :: rest)) := by
  refine va_astq hx hb hK hP hD hS q0 t0 qk ci ha ht hv hc (nin hi hj hn) hdg (fun H1 locs1 hP1 hD1 hS1 => ?_)
  rw [hi, nI_clamp (Nat.lt_trans hj hn)] at hP1 hD1
  subst hw
  exact kk H1 locs1 hP1 hD1 hS1
theorem w_putF {ref C : String} {T : u_T} {N ci index : Nat} {ty0 : Nat → FieldType} {fs : List Value} {v : Value} (hx : p.tables.exec = Jvm.exec) (hb : c.code = cc) (hts : ∀ w ∈ Ts, w.before args s = true) (hin : ∀ w ∈ u_ws C T N, w ∈ Ts) (hty : ∀ k, k < N → parseFieldDescriptor (T k).2.2.1 = some (ty0 k)) (hnm : ∀ a, a < N → ∀ b, b < N → a ≠ b → (T a).2.1 ≠ (T b).2.1) (hown : s.vm.findClass own = some m.cls) (hK : va_K D vwCl tys s) (hP : va_P D vwCl ws H) (hD : va_D A ws) (hS : va_S A s.heap H locs)
    (q0 : Nat) (he : ws[q0]? = some (a, .inr (ci, fs))) (hc : vwCl[ci]? = some (C, T, N)) (k : Nat) (hk : k < N) (hlink : Cond.fieldLink own index ref (T k).2.1 (T k).2.2.1 ∈ Ts) (href : (T k).1 = ref) (hfin : (T k).2.2.2 = true) (hin2 : meth.name = "<init>") (hdecl : (T k).1 = own) (hn : narrow (ty0 k) v = v) (hfit : fits (ty0 k) v = true) (hl : k < fs.length) (hw : ws.set q0 (a, .inr (ci, fs.set k v)) = ws') (hdg : decode cc pc = .ok (.putfield index, 3))
    (kk : ∀ (H1 : Heap) (locs1 : List Loc), va_P D vwCl ws' H1 → va_D A ws' → va_S A s.heap H1 locs1 → W p l e R s m args below meth c H1 locs1 cells slots Q (F0 m (pc + 3) ls rest)) : W p l e R s m args below meth c H locs cells slots Q (F0 m pc ls (v :: .ref a :: rest)) := by
  subst hw
  exact va_putF hx hb hts hin ty0 hty hnm hown hK hP hD hS q0 he hc k hk (hts _ hlink) (fun x h => href ▸ h) hfin hin2 hdecl (hty k hk) hn hfit hl hdg kk
theorem w_new {T : u_T} {N ci : Nat} {ty0 : Nat → FieldType} {fs : List Value} (hx : p.tables.exec = Jvm.exec) (hb : c.code = cc) (hts : ∀ w ∈ Ts, w.before args s = true) (hin : ∀ w ∈ u_ws C T N, w ∈ Ts) (hty : ∀ k, k < N → parseFieldDescriptor (T k).2.2.1 = some (ty0 k)) (hown : s.vm.findClass own = some m.cls) (hcl : Cond.classLink own index C ∈ Ts) (hinst : Cond.instantiable C N ∈ Ts) (hini : Cond.initialized C ∈ Ts)
    (hK : va_K D vwCl tys s) (hP : va_P D vwCl ws H) (hD : va_D A ws) (hS : va_S A s.heap H locs) (hA : ∀ q : Nat, s.heap.size ≤ q → A q) (hc : vwCl[ci]? = some (C, T, N)) (hfs : ∀ j, j < N → defaultValue (ty0 j) = vp_V fs j) (hcells : cells + 1 ≤ R.cells) (hslots : slots + N ≤ R.slots) (hdg : decode cc pc = .ok (.new index, 3))
    (kk : ∀ (q : Nat) (H1 : Heap), va_P D vwCl (ws ++ [(q, .inr (ci, fs))]) H1 → va_D A (ws ++ [(q, .inr (ci, fs))]) → va_S A s.heap H1 locs → W p l e R s m args below meth c H1 locs (cells + 1) (slots + N) Q (F0 m (pc + 3) ls (.ref q :: rest))) : W p l e R s m args below meth c H locs cells slots Q (F0 m pc ls rest) :=
  va_new hx hb hts hin ty0 hty hown (hts _ hcl) (hts _ hinst) (hts _ hini) hK hP hD hS hA hc hfs hcells hslots hdg kk
theorem w_alen (hx : p.tables.exec = Jvm.exec) (hb : c.code = cc) (hK : va_K D vwCl tys s) (hP : va_P D vwCl ws H) (q0 t0 : Nat) {N : Nat} {f : Nat → Int32} (ha : ws[q0]? = some (a, .inl (cA, N, .inl f))) (ht : tys[t0]? = some (cA, .int)) (hdg : decode cc pc = .ok (.arraylength, 1))
    (kk : W p l e R s m args below meth c H locs cells slots Q (F0 m (pc + 1) ls (.int (nI N) :: rest))) : W p l e R s m args below meth c H locs cells slots Q (F0 m pc ls (.ref a :: rest)) :=
  va_alen hx hb hK hP q0 t0 ha ht rfl hdg kk
theorem w_copy {index : Nat} (hx : p.tables.exec = Jvm.exec) (hb : c.code = cc) (hml : c.maxLocals = ls.size) (hown : s.vm.findClass own = some m.cls) (hlink : (Cond.methodLink own index arraycopyName).before args s = true) (hnat : (Cond.native arraycopyName).before args s = true) (hstat : (Cond.static arraycopyName).before args s = true) (hini : (Cond.initialized "java/lang/System").before args s = true)
    (hK : va_K D vwCl tys s) (hP : va_P D vwCl ws H) (hD : va_D A ws) (hS : va_S A s.heap H locs) (q0 q1 : Nat) {a0 N : Nat} {f g : Nat → Int32} (ha0 : ws[q0]? = some (a0, .inl (cA, N, .inl f))) (ha1 : ws[q1]? = some (a, .inl (cA, N, .inl g))) (ht0 : tys[0]? = some (cA, .int)) (hN : N < 2 ^ 31) {n : Int32} (hn : n = nI N)
    (hframes : 1 ≤ R.frames) (hlocals : (rest.map fun v => v.category).sum + (nativeFrameWords "java/lang/System" "arraycopy" 5 + 11) ≤ R.locals) (hw : ws.set q1 (a, .inl (cA, N, .inl (va_cpy f g 0 0 N))) = ws') (hdg : decode cc pc = .ok (.invokestatic index, 3))
    (kk : ∀ (H1 : Heap) (locs1 : List Loc), va_P D vwCl ws' H1 → va_D A ws' → va_S A s.heap H1 locs1 → W p l e R s m args below meth c H1 locs1 cells slots Q (F0 m (pc + 3) ls rest)) : W p l e R s m args below meth c H locs cells slots Q (F0 m pc ls (.int n :: .int 0 :: .ref a :: .int 0 :: .ref a0 :: rest)) := by
  have hc : n.toNatClampNeg = N := by rw [hn]; exact nI_clamp hN
  have h0 : (0 : Int32).toNatClampNeg = 0 := by decide
  refine va_copyi hx hb hml hown hlink hnat hstat hini hK hP hD hS q0 q1 0 0 ha0 ha1 ht0 ht0 rfl (by decide) (by decide) (by rw [hn]; exact nI_pos hN) (by rw [hc, h0]; omega) (by rw [hc, h0]; omega) (fun i _ => rfl) hframes hlocals hdg (fun H1 locs1 hP1 hD1 hS1 => ?_)
  rw [hc, h0] at hP1 hD1
  subst hw
  exact kk H1 locs1 hP1 hD1 hS1
end KM
end
section
/-! what an hour does, in words of f and g -/
def imn (x y : Int32) : Int32 := if y < x then y else x
def imx (x y : Int32) : Int32 := if x < y then y else x
def firmA (firm cold : Int32) : Int32 := imn 100 (firm + cold / 3)
def coldA (cold heat : Int32) : Int32 := imx 0 (cold - heat / 10 - 1)
def iceA (ice hour heat : Int32) : Int32 := if hour - hour / 4 * 4 = 0 then imx 0 (ice - heat / 5) else ice
def brine (cold ice salt : Int32) : Int32 := imn 30 (cold + ice / 4 + imn salt (2 * (ice / 4)))
def fmod (a b : Int32) : Int32 := if 0 ≤ a ^^^ b then a - a / b * b else if a - a / b * b = 0 then a - a / b * b else a - a / b * b + b
def pick3 (w : Nat) (a b d : Int32) : Int32 := if w = 0 then a else if w = 1 then b else d
def addF (a b d m : Int32) : Int32 := if b + m = 0 then 0 else d * b / (b + m)
def turnF (a b d : Int32) : Int32 := if 0 < b then firmA d a else d
def softB (b heat ice : Int32) : Int32 := if 20 < heat ∧ ice < 100 then imn 100 (b + (heat - 20) / 4 + 1) else imx 0 (b - 1)
def standA (a b heat ice : Int32) : Int32 := if a = 0 then a else if softB b heat ice = 100 then imx 0 (a - 2) else a
def standB (a b heat ice : Int32) : Int32 := if a = 0 then b else softB b heat ice
def payF (b : Int32) : Int32 := if b < 50 then 3 else 2
def forgB (a b : Int32) : Int32 := if a = 0 then 0 else b
theorem s3_0 {f : Nat → Int32} {k : Nat} {x y z : Int32} : set3 f k x y z k = x := by simp [set3]
theorem s3_1 {f : Nat → Int32} {k : Nat} {x y z : Int32} : set3 f k x y z (k + 1) = y := by simp [set3]
theorem s3_2 {f : Nat → Int32} {k : Nat} {x y z : Int32} : set3 f k x y z (k + 2) = z := by simp [set3]
theorem s3_o {f : Nat → Int32} {k j : Nat} {x y z : Int32} (h : j < k ∨ k + 3 ≤ j) : set3 f k x y z j = f j := by
  unfold set3
  rw [if_neg (by omega), if_neg (by omega), if_neg (by omega)]
theorem s3_self {f : Nat → Int32} {k : Nat} : set3 f k (f k) (f (k + 1)) (f (k + 2)) = f := by
  funext j
  unfold set3
  by_cases h0 : j = k
  · rw [if_pos h0, h0]
  · rw [if_neg h0]
    by_cases h1 : j = k + 1
    · rw [if_pos h1, h1]
    · rw [if_neg h1]
      by_cases h2 : j = k + 2
      · rw [if_pos h2, h2]
      · rw [if_neg h2]
theorem up_s {f : Nat → Int32} {k : Nat} {x : Int32} : upd f k x k = x := by simp [upd]
theorem up_o {f : Nat → Int32} {k j : Nat} {x : Int32} (h : j ≠ k) : upd f k x j = f j := by simp [upd, h]
def fo (F : Nat → (Nat → Int32) → Nat → Int32) : Nat → (Nat → Int32) → Nat → Int32
  | 0, f => f
  | n + 1, f => F n (fo F n f)
def rep (F : (Nat → Int32) → Nat → Int32) : Nat → (Nat → Int32) → Nat → Int32
  | 0, f => f
  | n + 1, f => F (rep F n f)
def hrN (f : Nat → Int32) : Nat := (f 0).toNatClampNeg
def hotOf (f g : Nat → Int32) : Int32 := g (hrN f / 24 % 7)
def sumS (f : Nat → Int32) : Nat → Int32
  | 0 => 0
  | n + 1 => sumS f n + f (19 + 3 * n)
def sumD (f : Nat → Int32) : Nat → Int32
  | 0 => 0
  | n + 1 => sumD f n + f (21 + 3 * n)
def nxt (f : Nat → Int32) : Nat → Int32
  | 0 => -1
  | n + 1 => if 0 < f (19 + 3 * n) ∧ (nxt f n = -1 ∨ f (20 + 3 * n) < f (20 + 3 * (nxt f n).toNatClampNeg)) then nI n else nxt f n
def bsf (f : Nat → Int32) (n : Nat) : Int32 := if nxt f n = -1 then 101 else f (20 + 3 * (nxt f n).toNatClampNeg)
def turn1 (hot : Int32) (i : Nat) (f : Nat → Int32) : Nat → Int32 := set3 f (7 + 3 * i) (coldA (f (7 + 3 * i)) hot) (f (8 + 3 * i)) (turnF (f (7 + 3 * i)) (f (8 + 3 * i)) (f (9 + 3 * i)))
def stand1 (hot : Int32) (i : Nat) (f : Nat → Int32) : Nat → Int32 := set3 f (19 + 3 * i) (standA (f (19 + 3 * i)) (f (20 + 3 * i)) hot (f 1)) (standB (f (19 + 3 * i)) (f (20 + 3 * i)) hot (f 1)) (f (21 + 3 * i))
def sellT (k : Nat) (f : Nat → Int32) : Nat → Int32 := upd (set3 (upd f 4 (f 4 - 1)) (19 + 3 * k) (f (19 + 3 * k) - 1) (f (20 + 3 * k)) (f (21 + 3 * k) + 1)) 5 (f 5 + payF (f (20 + 3 * k)))
def sell1 (nt : Nat) (f : Nat → Int32) : Nat → Int32 := if nxt f nt = -1 ∨ f 4 = 0 then upd f 6 (f 6 + 1) else sellT (nxt f nt).toNatClampNeg f
def ice1 (hot : Int32) (f : Nat → Int32) : Nat → Int32 := upd f 1 (iceA (f 1) (f 0) hot)
def forg1 (i : Nat) (f : Nat → Int32) : Nat → Int32 := set3 f (19 + 3 * i) (f (19 + 3 * i)) (forgB (f (19 + 3 * i)) (f (20 + 3 * i))) (f (21 + 3 * i))
def serveF (nt : Nat) (hot : Int32) (f : Nat → Int32) : Nat → Int32 := if 10 ≤ f 0 - f 0 / 24 * 24 ∧ f 0 - f 0 / 24 * 24 ≤ 18 then rep (sell1 nt) (hot / 4).toNatClampNeg f else f
def hourT (nc nt : Nat) (hot : Int32) (f : Nat → Int32) : Nat → Int32 := ice1 hot (serveF nt hot (fo (stand1 hot) nt (fo (turn1 hot) nc f)))
def tickF (f : Nat → Int32) : Nat → Int32 := upd f 0 (f 0 + 1)
def hourF (nc nt : Nat) (g f : Nat → Int32) : Nat → Int32 := fo forg1 nt (tickF (hourT nc nt (hotOf f g) f))
/-! what always holds -/
def Bd0 (x : Int32) (n : Int) : Prop := 0 ≤ x.toInt ∧ x.toInt ≤ n
def Inv (f : Nat → Int32) : Prop := (Bd0 (f 1) 900 ∧ Bd0 (f 2) 300 ∧ Bd0 (f 3) 300 ∧ Bd0 (f 4) 300) ∧ (∀ i, i < 4 → Bd0 (f (7 + 3 * i)) 30 ∧ Bd0 (f (8 + 3 * i)) 20 ∧ Bd0 (f (9 + 3 * i)) 100) ∧ (∀ i, i < 6 → Bd0 (f (19 + 3 * i)) 60 ∧ Bd0 (f (20 + 3 * i)) 100)
def Gd (g : Nat → Int32) : Prop := ∀ k, k < 7 → Bd0 (g k) 40
theorem Jn_tub {cI cC cT : ClassId} {A : Nat → Nat} {nc nt : Nat} {f g : Nat → Int32} (i : Nat) (hi : i < 6) (x y z : Int32) : Jn (CW cI cC cT A nc nt f g) [(A (9 + i), .inr (2, [.int (f (19 + 3 * i)), .int (f (20 + 3 * i)), .int (f (21 + 3 * i))]))] [(A (9 + i), .inr (2, [.int x, .int y, .int z]))] (CW cI cC cT A nc nt (set3 f (19 + 3 * i) x y z) g) := by
  rw [← cw_tub i hi x y z]
  exact Jn_set (9 + i) (A (9 + i)) _ _ (cw_gtub i hi)
theorem Jn_churn {cI cC cT : ClassId} {A : Nat → Nat} {nc nt : Nat} {f g : Nat → Int32} (i : Nat) (hi : i < 4) (x y z : Int32) : Jn (CW cI cC cT A nc nt f g) [(A (5 + i), .inr (1, [.int (f (7 + 3 * i)), .int (f (8 + 3 * i)), .int (f (9 + 3 * i))]))] [(A (5 + i), .inr (1, [.int x, .int y, .int z]))] (CW cI cC cT A nc nt (set3 f (7 + 3 * i) x y z) g) := by
  rw [← cw_churn i hi x y z]
  exact Jn_set (5 + i) (A (5 + i)) _ _ (cw_gchurn i hi)
/-! numbers -/
theorem i_lt (a b : Int32) : a < b ↔ a.toInt < b.toInt := Int32.lt_iff_toInt_lt
theorem i_le (a b : Int32) : a ≤ b ↔ a.toInt ≤ b.toInt := Int32.le_iff_toInt_le
theorem i_eq (a b : Int32) : a = b ↔ a.toInt = b.toInt := Int32.toInt_inj.symm
theorem t_n {n : Nat} (h : n < 2 ^ 31) : (nI n).toInt = (n : Int) := nI_toInt h
theorem of_bd {x : Int32} {n : Nat} (hn : n < 2 ^ 31) (h : Bd0 x (n : Int)) : ∃ j : Nat, j ≤ n ∧ x = nI j := by
  refine ⟨x.toInt.toNat, by have := h.2; have := h.1; omega, Int32.toInt_inj.mp ?_⟩
  rw [nI_toInt (by have := h.2; have := h.1; omega)]
  have := h.1
  omega
theorem sel_a {f : Nat → Int32} {j : Nat} (h : f (19 + 3 * j) ≤ 0) : nxt f (j + 1) = nxt f j ∧ bsf f (j + 1) = bsf f j := by
  have e : nxt f (j + 1) = nxt f j := if_neg (fun q => absurd h (Int32.not_le.mpr q.1))
  exact ⟨e, by rw [bsf, bsf, e]⟩
theorem sel_b {f : Nat → Int32} {j : Nat} (h : bsf f j ≤ f (20 + 3 * j)) (hs : f (20 + 3 * j) ≤ 100) : nxt f (j + 1) = nxt f j ∧ bsf f (j + 1) = bsf f j := by
  have e : nxt f (j + 1) = nxt f j := by
    refine if_neg (fun q => ?_)
    rcases q.2 with q | q
    · rw [bsf, if_pos q] at h
      exact absurd (Int32.le_trans h hs) (by decide)
    · by_cases h9 : nxt f j = -1
      · rw [bsf, if_pos h9] at h
        exact absurd (Int32.le_trans h hs) (by decide)
      · rw [bsf, if_neg h9] at h
        exact absurd h (Int32.not_le.mpr q)
  exact ⟨e, by rw [bsf, bsf, e]⟩
theorem nI_ne_m1 {j : Nat} (hj : j < 2 ^ 31) : ¬ nI j = -1 := fun h => by
  have h1 : (nI j).toInt = (-1 : Int32).toInt := by rw [h]
  rw [nI_toInt hj] at h1
  have h2 : (-1 : Int32).toInt = -1 := by decide
  omega
theorem sel_c {f : Nat → Int32} {j : Nat} (hj : j < 2 ^ 31) (h0 : 0 < f (19 + 3 * j)) (h : f (20 + 3 * j) < bsf f j) : nxt f (j + 1) = nI j ∧ bsf f (j + 1) = f (20 + 3 * j) := by
  have e : nxt f (j + 1) = nI j := by
    refine if_pos ⟨h0, ?_⟩
    by_cases h9 : nxt f j = -1
    · exact Or.inl h9
    · rw [bsf, if_neg h9] at h
      exact Or.inr h
  refine ⟨e, ?_⟩
  rw [bsf, e, if_neg (nI_ne_m1 hj), nI_clamp hj]
theorem nxt_in (f : Nat → Int32) : ∀ n, nxt f n = -1 ∨ ∃ k, k < n ∧ nxt f n = nI k ∧ 0 < f (19 + 3 * k) := by
  intro n
  induction n with
  | zero => exact Or.inl rfl
  | succ n ih =>
    by_cases h : 0 < f (19 + 3 * n) ∧ (nxt f n = -1 ∨ f (20 + 3 * n) < f (20 + 3 * (nxt f n).toNatClampNeg))
    · exact Or.inr ⟨n, by omega, if_pos h, h.1⟩
    · have e : nxt f (n + 1) = nxt f n := if_neg h
      rw [e]
      rcases ih with q | ⟨k, h1, h2⟩
      · exact Or.inl q
      · exact Or.inr ⟨k, by omega, h2⟩
theorem fmod_nI {h : Nat} (hh : h < 2 ^ 31) : fmod (nI h / 24) 7 = nI (h / 24 % 7) := by
  have e1 : nI h / 24 = nI (h / 24) := pk_div (d := 24) hh (by decide) (by decide)
  have hd : h / 24 < 2 ^ 31 := by omega
  have e2 : nI (h / 24) - nI (h / 24) / 7 * 7 = nI (h / 24 % 7) := pk_rem (d := 7) hd (by decide) (by decide)
  rw [e1]
  unfold fmod
  rw [e2]
  have hx : 0 ≤ nI (h / 24) ^^^ 7 := by
    rw [i_le]
    have : nI (h / 24) ^^^ 7 = nI ((h / 24) ^^^ 7) := by
      have hl : (7 : Int32) = nI 7 := rfl
      rw [hl]
      apply Int32.toBitVec_inj.mp
      simp [nI, Int32.toBitVec_xor, BitVec.ofNat_xor]
    rw [this, nI_toInt (Nat.xor_lt_two_pow (n := 31) (by omega) (by decide))]
    have h0 : (0 : Int32).toInt = 0 := by decide
    omega
  rw [if_pos hx]
end
section
theorem fX1_add_13 : Cond.fieldLink RX1 13 "ColdCreamery$Churn" "cream" "I" ∈ wsX1_add := by decide +kernel
theorem fX1_add_16 : Cond.fieldLink RX1 16 "ColdCreamery$Churn" "firm" "I" ∈ wsX1_add := by decide +kernel
theorem fX1_copyFrom_13 : Cond.fieldLink RX1 13 "ColdCreamery$Churn" "cream" "I" ∈ wsX1_copyFrom := by decide +kernel
theorem fX1_copyFrom_16 : Cond.fieldLink RX1 16 "ColdCreamery$Churn" "firm" "I" ∈ wsX1_copyFrom := by decide +kernel
theorem fX1_copyFrom_7 : Cond.fieldLink RX1 7 "ColdCreamery$Churn" "cold" "I" ∈ wsX1_copyFrom := by decide +kernel
theorem fX1_number_13 : Cond.fieldLink RX1 13 "ColdCreamery$Churn" "cream" "I" ∈ wsX1_number := by decide +kernel
theorem fX1_number_16 : Cond.fieldLink RX1 16 "ColdCreamery$Churn" "firm" "I" ∈ wsX1_number := by decide +kernel
theorem fX1_number_7 : Cond.fieldLink RX1 7 "ColdCreamery$Churn" "cold" "I" ∈ wsX1_number := by decide +kernel
theorem fX1_turn_13 : Cond.fieldLink RX1 13 "ColdCreamery$Churn" "cream" "I" ∈ wsX1_turn := by decide +kernel
theorem fX1_turn_16 : Cond.fieldLink RX1 16 "ColdCreamery$Churn" "firm" "I" ∈ wsX1_turn := by decide +kernel
theorem fX1_turn_7 : Cond.fieldLink RX1 7 "ColdCreamery$Churn" "cold" "I" ∈ wsX1_turn := by decide +kernel
theorem fX2_copyFrom_15 : Cond.fieldLink RX2 15 "ColdCreamery$Tub" "soft" "I" ∈ wsX2_copyFrom := by decide +kernel
theorem fX2_copyFrom_18 : Cond.fieldLink RX2 18 "ColdCreamery$Tub" "sold" "I" ∈ wsX2_copyFrom := by decide +kernel
theorem fX2_copyFrom_9 : Cond.fieldLink RX2 9 "ColdCreamery$Tub" "scoops" "I" ∈ wsX2_copyFrom := by decide +kernel
theorem fX2_forgetSoftnessIfEmpty_15 : Cond.fieldLink RX2 15 "ColdCreamery$Tub" "soft" "I" ∈ wsX2_forgetSoftnessIfEmpty := by decide +kernel
theorem fX2_forgetSoftnessIfEmpty_9 : Cond.fieldLink RX2 9 "ColdCreamery$Tub" "scoops" "I" ∈ wsX2_forgetSoftnessIfEmpty := by decide +kernel
theorem fX2_number_15 : Cond.fieldLink RX2 15 "ColdCreamery$Tub" "soft" "I" ∈ wsX2_number := by decide +kernel
theorem fX2_number_18 : Cond.fieldLink RX2 18 "ColdCreamery$Tub" "sold" "I" ∈ wsX2_number := by decide +kernel
theorem fX2_number_9 : Cond.fieldLink RX2 9 "ColdCreamery$Tub" "scoops" "I" ∈ wsX2_number := by decide +kernel
theorem fX2_sellScoop_15 : Cond.fieldLink RX2 15 "ColdCreamery$Tub" "soft" "I" ∈ wsX2_sellScoop := by decide +kernel
theorem fX2_sellScoop_18 : Cond.fieldLink RX2 18 "ColdCreamery$Tub" "sold" "I" ∈ wsX2_sellScoop := by decide +kernel
theorem fX2_sellScoop_9 : Cond.fieldLink RX2 9 "ColdCreamery$Tub" "scoops" "I" ∈ wsX2_sellScoop := by decide +kernel
theorem fX2_standInHeat_15 : Cond.fieldLink RX2 15 "ColdCreamery$Tub" "soft" "I" ∈ wsX2_standInHeat := by decide +kernel
theorem fX2_standInHeat_9 : Cond.fieldLink RX2 9 "ColdCreamery$Tub" "scoops" "I" ∈ wsX2_standInHeat := by decide +kernel
theorem fX2_take_15 : Cond.fieldLink RX2 15 "ColdCreamery$Tub" "soft" "I" ∈ wsX2_take := by decide +kernel
theorem fX2_take_9 : Cond.fieldLink RX2 9 "ColdCreamery$Tub" "scoops" "I" ∈ wsX2_take := by decide +kernel
theorem iX1_add_X1 : ∀ w ∈ u_ws RX1 TX1 3, w ∈ wsX1_add := by decide +kernel
theorem iX1_copyFrom_X1 : ∀ w ∈ u_ws RX1 TX1 3, w ∈ wsX1_copyFrom := by decide +kernel
theorem iX1_number_X1 : ∀ w ∈ u_ws RX1 TX1 3, w ∈ wsX1_number := by decide +kernel
theorem iX1_turn_X1 : ∀ w ∈ u_ws RX1 TX1 3, w ∈ wsX1_turn := by decide +kernel
theorem iX2_copyFrom_X2 : ∀ w ∈ u_ws RX2 TX2 3, w ∈ wsX2_copyFrom := by decide +kernel
theorem iX2_forgetSoftnessIfEmpty_X2 : ∀ w ∈ u_ws RX2 TX2 3, w ∈ wsX2_forgetSoftnessIfEmpty := by decide +kernel
theorem iX2_number_X2 : ∀ w ∈ u_ws RX2 TX2 3, w ∈ wsX2_number := by decide +kernel
theorem iX2_sellScoop_X2 : ∀ w ∈ u_ws RX2 TX2 3, w ∈ wsX2_sellScoop := by decide +kernel
theorem iX2_standInHeat_X2 : ∀ w ∈ u_ws RX2 TX2 3, w ∈ wsX2_standInHeat := by decide +kernel
theorem iX2_take_X2 : ∀ w ∈ u_ws RX2 TX2 3, w ∈ wsX2_take := by decide +kernel
theorem inX1_turn_X3 : Cond.initialized RX3 ∈ wsX1_turn := by decide +kernel
theorem kX3_mixed_184 : Cond.constantLong RX3 184 (31) ∈ wsX3_mixed := by decide +kernel
theorem mcX2_standInHeat_max : Cond.code Lib.Math.max.name Lib.Math.max.code 2 (some .int) ∈ wsX2_standInHeat := by decide +kernel
theorem mcX2_standInHeat_min : Cond.code Lib.Math.min.name Lib.Math.min.code 2 (some .int) ∈ wsX2_standInHeat := by decide +kernel
theorem mcX2_take_max : Cond.code Lib.Math.max.name Lib.Math.max.code 2 (some .int) ∈ wsX2_take := by decide +kernel
theorem mcX2_take_min : Cond.code Lib.Math.min.name Lib.Math.min.code 2 (some .int) ∈ wsX2_take := by decide +kernel
theorem mcX3_coldAfterHour_max : Cond.code Lib.Math.max.name Lib.Math.max.code 2 (some .int) ∈ wsX3_coldAfterHour := by decide +kernel
theorem mcX3_coldWithBrine_min : Cond.code Lib.Math.min.name Lib.Math.min.code 2 (some .int) ∈ wsX3_coldWithBrine := by decide +kernel
theorem mcX3_firmAfterHour_min : Cond.code Lib.Math.min.name Lib.Math.min.code 2 (some .int) ∈ wsX3_firmAfterHour := by decide +kernel
theorem mcX3_iceAfterHour_max : Cond.code Lib.Math.max.name Lib.Math.max.code 2 (some .int) ∈ wsX3_iceAfterHour := by decide +kernel
theorem miX2_standInHeat : Cond.initialized "java/lang/Math" ∈ wsX2_standInHeat := by decide +kernel
theorem miX2_take : Cond.initialized "java/lang/Math" ∈ wsX2_take := by decide +kernel
theorem miX3_coldAfterHour : Cond.initialized "java/lang/Math" ∈ wsX3_coldAfterHour := by decide +kernel
theorem miX3_coldWithBrine : Cond.initialized "java/lang/Math" ∈ wsX3_coldWithBrine := by decide +kernel
theorem miX3_firmAfterHour : Cond.initialized "java/lang/Math" ∈ wsX3_firmAfterHour := by decide +kernel
theorem miX3_iceAfterHour : Cond.initialized "java/lang/Math" ∈ wsX3_iceAfterHour := by decide +kernel
theorem mlX2_standInHeat_21 : Cond.methodLink RX2 21 Lib.Math.min.name ∈ wsX2_standInHeat := by decide +kernel
theorem mlX2_standInHeat_27 : Cond.methodLink RX2 27 Lib.Math.max.name ∈ wsX2_standInHeat := by decide +kernel
theorem mlX2_take_21 : Cond.methodLink RX2 21 Lib.Math.min.name ∈ wsX2_take := by decide +kernel
theorem mlX2_take_27 : Cond.methodLink RX2 27 Lib.Math.max.name ∈ wsX2_take := by decide +kernel
theorem mlX3_coldAfterHour_153 : Cond.methodLink RX3 153 Lib.Math.max.name ∈ wsX3_coldAfterHour := by decide +kernel
theorem mlX3_coldWithBrine_38 : Cond.methodLink RX3 38 Lib.Math.min.name ∈ wsX3_coldWithBrine := by decide +kernel
theorem mlX3_firmAfterHour_38 : Cond.methodLink RX3 38 Lib.Math.min.name ∈ wsX3_firmAfterHour := by decide +kernel
theorem mlX3_iceAfterHour_153 : Cond.methodLink RX3 153 Lib.Math.max.name ∈ wsX3_iceAfterHour := by decide +kernel
theorem msX2_standInHeat_max : Cond.static Lib.Math.max.name ∈ wsX2_standInHeat := by decide +kernel
theorem msX2_standInHeat_min : Cond.static Lib.Math.min.name ∈ wsX2_standInHeat := by decide +kernel
theorem msX2_take_max : Cond.static Lib.Math.max.name ∈ wsX2_take := by decide +kernel
theorem msX2_take_min : Cond.static Lib.Math.min.name ∈ wsX2_take := by decide +kernel
theorem msX3_coldAfterHour_max : Cond.static Lib.Math.max.name ∈ wsX3_coldAfterHour := by decide +kernel
theorem msX3_coldWithBrine_min : Cond.static Lib.Math.min.name ∈ wsX3_coldWithBrine := by decide +kernel
theorem msX3_firmAfterHour_min : Cond.static Lib.Math.min.name ∈ wsX3_firmAfterHour := by decide +kernel
theorem msX3_iceAfterHour_max : Cond.static Lib.Math.max.name ∈ wsX3_iceAfterHour := by decide +kernel
theorem oiX1_init : Cond.methodLink RX1 1 objectInit ∈ wsX1_init := by decide +kernel
theorem oiX2_init : Cond.methodLink RX2 3 objectInit ∈ wsX2_init := by decide +kernel
theorem ojX1_init : Cond.instanceMethod objectInit ∈ wsX1_init := by decide +kernel
theorem ojX2_init : Cond.instanceMethod objectInit ∈ wsX2_init := by decide +kernel
theorem okX1_init : Cond.code objectInit ⟨#[0xb1]⟩ 1 none ∈ wsX1_init := by decide +kernel
theorem okX2_init : Cond.code objectInit ⟨#[0xb1]⟩ 1 none ∈ wsX2_init := by decide +kernel
theorem pX3_coldAfterHour : yX3_coldAfterHour.cls ≠ "java/lang/invoke/MethodHandle" ∧ yX3_coldAfterHour.cls ≠ "java/lang/invoke/VarHandle" ∧ (parseMethodDescriptor yX3_coldAfterHour.desc).map (fun d => d.parameters.length) = some 2 := by decide +kernel
theorem pX3_coldOfIce : yX3_coldOfIce.cls ≠ "java/lang/invoke/MethodHandle" ∧ yX3_coldOfIce.cls ≠ "java/lang/invoke/VarHandle" ∧ (parseMethodDescriptor yX3_coldOfIce.desc).map (fun d => d.parameters.length) = some 1 := by decide +kernel
theorem pX3_firmAfterHour : yX3_firmAfterHour.cls ≠ "java/lang/invoke/MethodHandle" ∧ yX3_firmAfterHour.cls ≠ "java/lang/invoke/VarHandle" ∧ (parseMethodDescriptor yX3_firmAfterHour.desc).map (fun d => d.parameters.length) = some 2 := by decide +kernel
theorem stX1_turn_X3_coldAfterHour : Cond.static yX3_coldAfterHour ∈ wsX1_turn := by decide +kernel
theorem stX1_turn_X3_firmAfterHour : Cond.static yX3_firmAfterHour ∈ wsX1_turn := by decide +kernel
end
section
/-! bounds that every hour keeps -/
theorem bd_n {j : Nat} {n : Nat} (h : j ≤ n) (hn : n < 2 ^ 31) : Bd0 (nI j) (n : Int) := by
  unfold Bd0
  rw [nI_toInt (by omega)]
  omega
theorem mx_sub {a b : Nat} (ha : a < 2 ^ 30) (hb : b < 2 ^ 30) : imx 0 (nI a - nI b) = nI (a - b) := by
  unfold imx
  have h0 : (0 : Int32).toInt = 0 := by decide
  by_cases h : b < a
  · rw [if_pos (by rw [i_lt, pk_sub_toInt ha hb, h0]; omega), pk_sub (by omega)]
  · rw [if_neg (by rw [i_lt, pk_sub_toInt ha hb, h0]; omega), show a - b = 0 by omega]; rfl
theorem mn_n {a b : Nat} (ha : a < 2 ^ 31) (hb : b < 2 ^ 31) : imn (nI a) (nI b) = nI (min a b) := by
  unfold imn
  by_cases h : b < a
  · rw [if_pos ((nI_ltI hb ha).mpr h), Nat.min_eq_right (by omega)]
  · rw [if_neg (fun q => h ((nI_ltI hb ha).mp q)), Nat.min_eq_left (by omega)]
theorem mx_n {a b : Nat} (ha : a < 2 ^ 31) (hb : b < 2 ^ 31) : imx (nI a) (nI b) = nI (max a b) := by
  unfold imx
  by_cases h : a < b
  · rw [if_pos ((nI_ltI ha hb).mpr h), Nat.max_eq_right (by omega)]
  · rw [if_neg (fun q => h ((nI_ltI ha hb).mp q)), Nat.max_eq_left (by omega)]
theorem dv {a d : Nat} (ha : a < 2 ^ 31) (h0 : 0 < d) (hd : d < 2 ^ 31) : nI a / nI d = nI (a / d) := pk_div ha h0 hd
theorem coldA_n {c q : Nat} (hc : c < 2 ^ 30) (hq : q < 2 ^ 30) : coldA (nI c) (nI q) = nI (c - (q / 10 + 1)) := by
  unfold coldA
  have e : nI q / 10 = nI (q / 10) := dv (d := 10) (by omega) (by decide) (by decide)
  have e2 : nI c - nI (q / 10) - 1 = nI c - nI (q / 10 + 1) := by
    rw [nI_succ]
    apply Int32.toBitVec_inj.mp
    simp only [Int32.toBitVec_sub, Int32.toBitVec_add]
    rw [BitVec.sub_sub]
  rw [e, e2, mx_sub hc (by omega)]
theorem firmA_n {d c : Nat} (hd : d < 2 ^ 29) (hc : c < 2 ^ 29) : firmA (nI d) (nI c) = nI (min 100 (d + c / 3)) := by
  unfold firmA
  have e : nI c / 3 = nI (c / 3) := dv (d := 3) (by omega) (by decide) (by decide)
  have e2 : (100 : Int32) = nI 100 := rfl
  rw [e, nI_add, e2, mn_n (by decide) (by omega)]
theorem hotb {q : Nat} (hq : q ≤ 40) : 20 < nI q ↔ 20 < q := by
  have e : (20 : Int32) = nI 20 := rfl
  rw [e]
  exact nI_ltI (by decide) (by omega)
theorem softB_b {b q : Nat} (hb : b ≤ 100) (hq : q ≤ 40) (ice : Int32) : ∃ j, j ≤ 100 ∧ softB (nI b) (nI q) ice = nI j := by
  unfold softB
  by_cases h : 20 < nI q ∧ ice < 100
  · rw [if_pos h]
    have hq2 := (hotb hq).mp h.1
    have e : (20 : Int32) = nI 20 := rfl
    have e4 : (nI (q - 20)) / 4 = nI ((q - 20) / 4) := dv (d := 4) (by omega) (by decide) (by decide)
    have e1 : (100 : Int32) = nI 100 := rfl
    rw [e, pk_sub (by omega), e4, nI_add, nI_1, e1, mn_n (by decide) (by omega)]
    exact ⟨_, Nat.min_le_left _ _, rfl⟩
  · rw [if_neg h]
    have e : (1 : Int32) = nI 1 := rfl
    rw [e, mx_sub (by omega) (by decide)]
    exact ⟨_, by omega, rfl⟩
theorem iceA_n {a h q : Nat} (ha : a < 2 ^ 30) (hh : h < 2 ^ 31) (hq : q < 2 ^ 30) : iceA (nI a) (nI h) (nI q) = nI (if h % 4 = 0 then a - q / 5 else a) := by
  unfold iceA
  have e : nI h - nI h / 4 * 4 = nI (h % 4) := pk_rem (d := 4) hh (by decide) (by decide)
  have e5 : nI q / 5 = nI (q / 5) := dv (d := 5) (by omega) (by decide) (by decide)
  have e0 : (nI (h % 4) = 0) ↔ h % 4 = 0 := by
    have z : (0 : Int32) = nI 0 := rfl
    rw [z]
    exact nI_eq (by omega) (by decide)
  rw [e, e5, mx_sub ha (by omega)]
  by_cases h4 : h % 4 = 0
  · rw [if_pos (e0.mpr h4), if_pos h4]
  · rw [if_neg (fun q => h4 (e0.mp q)), if_neg h4]
theorem Inv.churn {f : Nat → Int32} (hI : Inv f) {i : Nat} (hi : i < 4) {x y z : Int32} (hx : Bd0 x 30) (hy : Bd0 y 20) (hz : Bd0 z 100) : Inv (set3 f (7 + 3 * i) x y z) := by
  obtain ⟨⟨h1, h2, h3, h4⟩, hc, ht⟩ := hI
  refine ⟨⟨by rw [s3_o (by omega)]; exact h1, by rw [s3_o (by omega)]; exact h2, by rw [s3_o (by omega)]; exact h3, by rw [s3_o (by omega)]; exact h4⟩, fun j hj => ?_, fun j hj => ?_⟩
  · by_cases h : j = i
    · subst h
      refine ⟨by rw [s3_0]; exact hx, ?_, ?_⟩
      · rw [show 8 + 3 * j = 7 + 3 * j + 1 by omega, s3_1]; exact hy
      · rw [show 9 + 3 * j = 7 + 3 * j + 2 by omega, s3_2]; exact hz
    · rw [s3_o (by omega), s3_o (by omega), s3_o (by omega)]; exact hc j hj
  · rw [s3_o (by omega), s3_o (by omega)]; exact ht j hj
theorem Inv.tub {f : Nat → Int32} (hI : Inv f) {i : Nat} (hi : i < 6) {x y z : Int32} (hx : Bd0 x 60) (hy : Bd0 y 100) : Inv (set3 f (19 + 3 * i) x y z) := by
  obtain ⟨⟨h1, h2, h3, h4⟩, hc, ht⟩ := hI
  refine ⟨⟨by rw [s3_o (by omega)]; exact h1, by rw [s3_o (by omega)]; exact h2, by rw [s3_o (by omega)]; exact h3, by rw [s3_o (by omega)]; exact h4⟩, fun j hj => ?_, fun j hj => ?_⟩
  · rw [s3_o (by omega), s3_o (by omega), s3_o (by omega)]; exact hc j hj
  · by_cases h : j = i
    · subst h
      refine ⟨by rw [s3_0]; exact hx, ?_⟩
      rw [show 20 + 3 * j = 19 + 3 * j + 1 by omega, s3_1]; exact hy
    · rw [s3_o (by omega), s3_o (by omega)]; exact ht j hj
theorem Inv.up {f : Nat → Int32} (hI : Inv f) {k : Nat} {x : Int32} (hk : k = 0 ∨ k = 5 ∨ k = 6 ∨ (k = 1 ∧ Bd0 x 900) ∨ ((k = 2 ∨ k = 3 ∨ k = 4) ∧ Bd0 x 300)) : Inv (upd f k x) := by
  obtain ⟨⟨h1, h2, h3, h4⟩, hc, ht⟩ := hI
  have g : ∀ j, j ≠ k → upd f k x j = f j := fun j h => up_o h
  have hk7 : k < 7 := by omega
  refine ⟨⟨?_, ?_, ?_, ?_⟩, fun j hj => ?_, fun j hj => ?_⟩
  · by_cases h : 1 = k
    · subst h; rw [up_s]; rcases hk with h | h | h | h | h <;> first | omega | exact h.2
    · rw [g _ h]; exact h1
  · by_cases h : 2 = k
    · subst h; rw [up_s]; rcases hk with h | h | h | h | h <;> first | omega | exact h.2
    · rw [g _ h]; exact h2
  · by_cases h : 3 = k
    · subst h; rw [up_s]; rcases hk with h | h | h | h | h <;> first | omega | exact h.2
    · rw [g _ h]; exact h3
  · by_cases h : 4 = k
    · subst h; rw [up_s]; rcases hk with h | h | h | h | h <;> first | omega | exact h.2
    · rw [g _ h]; exact h4
  · rw [g _ (by omega), g _ (by omega), g _ (by omega)]; exact hc j hj
  · rw [g _ (by omega), g _ (by omega)]; exact ht j hj
theorem Inv.turn {f : Nat → Int32} (hI : Inv f) {hot : Int32} (hh : Bd0 hot 40) {i : Nat} (hi : i < 4) : Inv (turn1 hot i f) := by
  obtain ⟨q, hq, rfl⟩ := of_bd (n := 40) (by decide) hh
  obtain ⟨b1, b2, b3⟩ := hI.2.1 i hi
  obtain ⟨c, hc, ec⟩ := of_bd (n := 30) (by decide) b1
  obtain ⟨d, hd, ed⟩ := of_bd (n := 100) (by decide) b3
  refine hI.churn hi ?_ b2 ?_
  · rw [ec, coldA_n (by omega) (by omega)]; exact bd_n (n := 30) (by omega) (by decide)
  · unfold turnF
    by_cases h : 0 < f (8 + 3 * i)
    · rw [if_pos h, ec, ed, firmA_n (by omega) (by omega)]; exact bd_n (n := 100) (Nat.min_le_left _ _) (by decide)
    · rw [if_neg h]; exact b3
theorem Inv.stand {f : Nat → Int32} (hI : Inv f) {hot : Int32} (hh : Bd0 hot 40) {i : Nat} (hi : i < 6) : Inv (stand1 hot i f) := by
  obtain ⟨q, hq, rfl⟩ := of_bd (n := 40) (by decide) hh
  obtain ⟨b1, b2⟩ := hI.2.2 i hi
  obtain ⟨a, ha, ea⟩ := of_bd (n := 60) (by decide) b1
  obtain ⟨b, hb, eb⟩ := of_bd (n := 100) (by decide) b2
  obtain ⟨j, hj, ej⟩ := softB_b hb hq (f 1)
  refine hI.tub hi ?_ ?_
  · unfold standA
    by_cases h : f (19 + 3 * i) = 0
    · rw [if_pos h]; exact b1
    · rw [if_neg h]
      by_cases h2 : softB (f (20 + 3 * i)) (nI q) (f 1) = 100
      · have e2 : (2 : Int32) = nI 2 := rfl
        rw [if_pos h2, ea, e2, mx_sub (by omega) (by decide)]; exact bd_n (n := 60) (by omega) (by decide)
      · rw [if_neg h2]; exact b1
  · unfold standB
    by_cases h : f (19 + 3 * i) = 0
    · rw [if_pos h]; exact b2
    · rw [if_neg h, eb, ej]; exact bd_n (n := 100) hj (by decide)
theorem Inv.forg {f : Nat → Int32} (hI : Inv f) {i : Nat} (hi : i < 6) : Inv (forg1 i f) := by
  obtain ⟨b1, b2⟩ := hI.2.2 i hi
  refine hI.tub hi b1 ?_
  unfold forgB
  by_cases h : f (19 + 3 * i) = 0
  · rw [if_pos h]; exact ⟨by decide, by decide⟩
  · rw [if_neg h]; exact b2
theorem Inv.fo_ {F : Nat → (Nat → Int32) → Nat → Int32} {N : Nat} (hF : ∀ f i, i < N → Inv f → Inv (F i f)) {f : Nat → Int32} (hI : Inv f) : ∀ n, n ≤ N → Inv (fo F n f) := by
  intro n
  induction n with
  | zero => intro _; exact hI
  | succ n ih => intro h; exact hF _ n (by omega) (ih (by omega))
theorem Inv.sellT {f : Nat → Int32} (hI : Inv f) {k : Nat} (hk : k < 6) (h4 : ¬ f 4 = 0) (hs : 0 < f (19 + 3 * k)) : Inv (sellT k f) := by
  obtain ⟨⟨h1, h2, h3, hb4⟩, hc, ht⟩ := id hI
  obtain ⟨a, ha, ea⟩ := of_bd (n := 300) (by decide) hb4
  obtain ⟨b, hb, eb⟩ := of_bd (n := 60) (by decide) (ht k hk).1
  have e1 : (1 : Int32) = nI 1 := rfl
  have e0 : (0 : Int32) = nI 0 := rfl
  have ha0 : 0 < a := by
    rcases Nat.eq_zero_or_pos a with h | h
    · exact absurd (by rw [ea, h]; rfl) h4
    · exact h
  have hb0 : 0 < b := by
    rw [eb, e0] at hs
    exact (nI_ltI (by decide) (by omega)).mp hs
  refine Inv.up (k := 5) (Inv.tub (Inv.up (k := 4) hI ?_) hk ?_ (ht k hk).2) (by omega)
  · exact Or.inr (Or.inr (Or.inr (Or.inr ⟨by omega, by rw [ea, e1, pk_sub (by omega)]; exact bd_n (n := 300) (by omega) (by decide)⟩)))
  · rw [eb, e1, pk_sub (by omega)]; exact bd_n (n := 60) (by omega) (by decide)
theorem Inv.sell {f : Nat → Int32} (hI : Inv f) {nt : Nat} (hnt : nt ≤ 6) : Inv (sell1 nt f) := by
  unfold sell1
  by_cases h : nxt f nt = -1 ∨ f 4 = 0
  · rw [if_pos h]; exact hI.up (by omega)
  · rw [if_neg h]
    rcases nxt_in f nt with q | ⟨k, hk, e, hs⟩
    · exact absurd (Or.inl q) h
    · rw [e, nI_clamp (by omega)]
      exact hI.sellT (by omega) (fun q => h (Or.inr q)) hs
theorem Inv.rep_ {F : (Nat → Int32) → Nat → Int32} (hF : ∀ f, Inv f → Inv (F f)) {f : Nat → Int32} (hI : Inv f) : ∀ n, Inv (rep F n f) := by
  intro n
  induction n with
  | zero => exact hI
  | succ n ih => exact hF _ ih
theorem Inv.serve {f : Nat → Int32} (hI : Inv f) {nt : Nat} (hnt : nt ≤ 6) (hot : Int32) : Inv (serveF nt hot f) := by
  unfold serveF
  by_cases h : 10 ≤ f 0 - f 0 / 24 * 24 ∧ f 0 - f 0 / 24 * 24 ≤ 18
  · rw [if_pos h]; exact Inv.rep_ (fun f h => h.sell hnt) hI _
  · rw [if_neg h]; exact hI
theorem fo_at {F : Nat → (Nat → Int32) → Nat → Int32} {j : Nat} (hF : ∀ f i, F i f j = f j) (f : Nat → Int32) : ∀ n, fo F n f j = f j := by
  intro n
  induction n with
  | zero => rfl
  | succ n ih => show F n (fo F n f) j = f j; rw [hF, ih]
theorem rep_at {F : (Nat → Int32) → Nat → Int32} {j : Nat} (hF : ∀ f, F f j = f j) (f : Nat → Int32) : ∀ n, rep F n f j = f j := by
  intro n
  induction n with
  | zero => rfl
  | succ n ih => show F (rep F n f) j = f j; rw [hF, ih]
theorem turn_o {hot : Int32} {i j : Nat} {f : Nat → Int32} (h : j < 7 ∨ 19 ≤ j) (hi : i < 4) : turn1 hot i f j = f j := s3_o (by omega)
theorem sellT_0 {k : Nat} {f : Nat → Int32} {j : Nat} (h : j < 4) : sellT k f j = f j := by
  unfold sellT
  rw [up_o (by omega), s3_o (by omega), up_o (by omega)]
theorem sell_0 {nt : Nat} {f : Nat → Int32} {j : Nat} (h : j < 4) : sell1 nt f j = f j := by
  unfold sell1
  by_cases q : nxt f nt = -1 ∨ f 4 = 0
  · rw [if_pos q, up_o (by omega)]
  · rw [if_neg q, sellT_0 h]
theorem serve_0 {nt : Nat} {hot : Int32} {f : Nat → Int32} {j : Nat} (h : j < 4) : serveF nt hot f j = f j := by
  unfold serveF
  by_cases q : 10 ≤ f 0 - f 0 / 24 * 24 ∧ f 0 - f 0 / 24 * 24 ≤ 18
  · rw [if_pos q]; exact rep_at (fun f => sell_0 h) f _
  · rw [if_neg q]
theorem turn_0 {hot : Int32} {j : Nat} (h : j < 7) (f : Nat → Int32) (n : Nat) : fo (turn1 hot) n f j = f j := fo_at (fun f i => s3_o (by omega)) f n
theorem stand_0 {hot : Int32} {j : Nat} (h : j < 19) (f : Nat → Int32) (n : Nat) : fo (stand1 hot) n f j = f j := fo_at (fun f i => s3_o (by omega)) f n
theorem forg_0 {j : Nat} (h : j < 19) (f : Nat → Int32) (n : Nat) : fo forg1 n f j = f j := fo_at (fun f i => s3_o (by omega)) f n
theorem soft_ok {f : Nat → Int32} (hI : Inv f) {nt : Nat} (hnt : nt ≤ 6) : ∀ t, t < nt → f (20 + 3 * t) ≤ 100 := fun t ht => by
  rw [i_le]
  exact (hI.2.2 t (by omega)).2.2
theorem Inv.hourT {f : Nat → Int32} (hI : Inv f) {nc nt : Nat} (hnc : nc ≤ 4) (hnt : nt ≤ 6) {hot : Int32} (hh : Bd0 hot 40) {h : Nat} (hh0 : h < 2 ^ 30) (h0 : f 0 = nI h) : Inv (hourT nc nt hot f) := by
  have h1 : Inv (fo (turn1 hot) nc f) := Inv.fo_ (N := 4) (fun f i hi h => h.turn hh hi) hI nc hnc
  have h2 : Inv (fo (stand1 hot) nt (fo (turn1 hot) nc f)) := Inv.fo_ (N := 6) (fun f i hi h => h.stand hh hi) h1 nt hnt
  have h3 := h2.serve hnt hot
  refine h3.up (k := 1) (Or.inr (Or.inr (Or.inr (Or.inl ⟨rfl, ?_⟩))))
  obtain ⟨q, hq, rfl⟩ := of_bd (n := 40) (by decide) hh
  obtain ⟨a, ha, ea⟩ := of_bd (n := 900) (by decide) h3.1.1
  rw [ea, serve_0 (by omega), stand_0 (by omega), turn_0 (by omega), h0, iceA_n (by omega) (by omega) (by omega)]
  refine bd_n (n := 900) ?_ (by decide)
  split <;> omega
theorem hourT_0 {nc nt : Nat} {hot : Int32} {f : Nat → Int32} {j : Nat} (h : j < 4) (h1 : j ≠ 1) : hourT nc nt hot f j = f j := by
  unfold hourT ice1
  rw [up_o h1, serve_0 h, stand_0 (by omega), turn_0 (by omega)]
theorem Inv.hour {f g : Nat → Int32} (hI : Inv f) (hg : Gd g) {nc nt : Nat} (hnc : nc ≤ 4) (hnt : nt ≤ 6) {h : Nat} (hh0 : h < 2 ^ 30) (h0 : f 0 = nI h) : Inv (hourF nc nt g f) ∧ hourF nc nt g f 0 = nI (h + 1) := by
  have hb : Bd0 (hotOf f g) 40 := hg _ (Nat.mod_lt _ (by decide))
  have h1 := hI.hourT hnc hnt hb hh0 h0
  refine ⟨Inv.fo_ (N := 6) (fun f i hi h => h.forg hi) (h1.up (k := 0) (by omega)) nt hnt, ?_⟩
  unfold hourF
  rw [forg_0 (by omega), tickF, up_s, hourT_0 (by omega) (by omega), h0, nI_succ]
theorem Inv.hours {f g : Nat → Int32} (hI : Inv f) (hg : Gd g) {nc nt : Nat} (hnc : nc ≤ 4) (hnt : nt ≤ 6) {h : Nat} (h0 : f 0 = nI h) : ∀ n, h + n < 2 ^ 30 → Inv (rep (hourF nc nt g) n f) ∧ rep (hourF nc nt g) n f 0 = nI (h + n) := by
  intro n
  induction n with
  | zero => intro _; exact ⟨hI, h0⟩
  | succ n ih =>
    intro hn
    obtain ⟨q1, q2⟩ := ih (by omega)
    exact q1.hour hg hnc hnt (h := h + n) (by omega) q2
end
section
set_option maxHeartbeats 4000000 in
set_option maxRecDepth 100000 in
theorem mX3_firmAfterHour (l : Launch) (D : va_G) (cI cC cT cL : ClassId) (a b : Int32) : M0 l yX3_firmAfterHour wsX3_firmAfterHour ({ frames := 1, cells := 0, slots := 0, locals := 21 } : Room) D (TY cI cC cT cL) [.int a, .int b] ([]) (some (.int (firmA a b))) ([]) 0 0 := by
  refine M0_of (cc := cX3_firmAfterHour) (maxL := 2) (ret := (some .int)) (by decide +kernel) rfl (Nat.le_of_ble_eq_true rfl) ?_
  intro p e s m args below meth c A0 B ls hl
  obtain ⟨hx, hb, hml, hr, hown, hts, hlocks, hK, hP, hD, hA, hST, hnm⟩ := B
  have hown : s.vm.findClass RX3 = some m.cls := hown
  have hS : va_S A0 s.heap s.heap [] := va_S.rf
  have hl : lv_has ls 2 [(0, .int a), (1, .int b)] := hl
  refine lv_bipush (v := 100) hx hb dX3_firmAfterHour_0 (by decide) ?_
  refine lv_iload_n hx hb dX3_firmAfterHour_2 rfl (lv_at hl 0 rfl) ?_
  refine lv_iload_n hx hb dX3_firmAfterHour_3 rfl (lv_at hl 1 rfl) ?_
  refine lv_iconst (v := 3) hx hb dX3_firmAfterHour_4 (by decide) ?_
  refine lv_idiv hx hb dX3_firmAfterHour_5 (by decide) ?_
  refine lv_iadd hx hb dX3_firmAfterHour_6 ?_
  refine va_mmin hx hb (hml.trans hl.1.symm) hown (hts _ mlX3_firmAfterHour_38) (hts _ msX3_firmAfterHour_min) (hts _ miX3_firmAfterHour) (hts _ mcX3_firmAfterHour_min) (Nat.le_of_ble_eq_true rfl) (Nat.le_of_ble_eq_true rfl) (Nat.le_of_ble_eq_true rfl) (Nat.le_of_ble_eq_true rfl) dX3_firmAfterHour_7 ?_
  exact e0_i hx hb hr hlocks hP hS dX3_firmAfterHour_10 (by decide) (by decide) (rfl)

set_option maxHeartbeats 4000000 in
set_option maxRecDepth 100000 in
theorem mX3_coldAfterHour (l : Launch) (D : va_G) (cI cC cT cL : ClassId) (a b : Int32) : M0 l yX3_coldAfterHour wsX3_coldAfterHour ({ frames := 1, cells := 0, slots := 0, locals := 21 } : Room) D (TY cI cC cT cL) [.int a, .int b] ([]) (some (.int (coldA a b))) ([]) 0 0 := by
  refine M0_of (cc := cX3_coldAfterHour) (maxL := 2) (ret := (some .int)) (by decide +kernel) rfl (Nat.le_of_ble_eq_true rfl) ?_
  intro p e s m args below meth c A0 B ls hl
  obtain ⟨hx, hb, hml, hr, hown, hts, hlocks, hK, hP, hD, hA, hST, hnm⟩ := B
  have hown : s.vm.findClass RX3 = some m.cls := hown
  have hS : va_S A0 s.heap s.heap [] := va_S.rf
  have hl : lv_has ls 2 [(0, .int a), (1, .int b)] := hl
  refine lv_iconst (v := 0) hx hb dX3_coldAfterHour_0 (by decide) ?_
  refine lv_iload_n hx hb dX3_coldAfterHour_1 rfl (lv_at hl 0 rfl) ?_
  refine lv_iload_n hx hb dX3_coldAfterHour_2 rfl (lv_at hl 1 rfl) ?_
  refine lv_bipush (v := 10) hx hb dX3_coldAfterHour_3 (by decide) ?_
  refine lv_idiv hx hb dX3_coldAfterHour_5 (by decide) ?_
  refine lv_isub hx hb dX3_coldAfterHour_6 ?_
  refine lv_iconst (v := 1) hx hb dX3_coldAfterHour_7 (by decide) ?_
  refine lv_isub hx hb dX3_coldAfterHour_8 ?_
  refine va_mmax hx hb (hml.trans hl.1.symm) hown (hts _ mlX3_coldAfterHour_153) (hts _ msX3_coldAfterHour_max) (hts _ miX3_coldAfterHour) (hts _ mcX3_coldAfterHour_max) (Nat.le_of_ble_eq_true rfl) (Nat.le_of_ble_eq_true rfl) (Nat.le_of_ble_eq_true rfl) (Nat.le_of_ble_eq_true rfl) dX3_coldAfterHour_9 ?_
  exact e0_i hx hb hr hlocks hP hS dX3_coldAfterHour_12 (by decide) (by decide) (rfl)

set_option maxHeartbeats 4000000 in
set_option maxRecDepth 100000 in
theorem mX3_iceAfterHour (l : Launch) (D : va_G) (cI cC cT cL : ClassId) (a b c0 : Int32) : M0 l yX3_iceAfterHour wsX3_iceAfterHour ({ frames := 1, cells := 0, slots := 0, locals := 21 } : Room) D (TY cI cC cT cL) [.int a, .int b, .int c0] ([]) (some (.int (iceA a b c0))) ([]) 0 0 := by
  refine M0_of (cc := cX3_iceAfterHour) (maxL := 3) (ret := (some .int)) (by decide +kernel) rfl (Nat.le_of_ble_eq_true rfl) ?_
  intro p e s m args below meth c A0 B ls hl
  obtain ⟨hx, hb, hml, hr, hown, hts, hlocks, hK, hP, hD, hA, hST, hnm⟩ := B
  have hown : s.vm.findClass RX3 = some m.cls := hown
  have hS : va_S A0 s.heap s.heap [] := va_S.rf
  have hl : lv_has ls 3 [(0, .int a), (1, .int b), (2, .int c0)] := hl
  refine lv_iload_n hx hb dX3_iceAfterHour_0 rfl (lv_at hl 1 rfl) ?_
  refine lv_iconst (v := 4) hx hb dX3_iceAfterHour_1 (by decide) ?_
  refine lv_irem hx hb dX3_iceAfterHour_2 (by decide) ?_
  refine lv_if_ne (tgt := 18) hx hb dX3_iceAfterHour_3 (by decide) (fun c_3 => ?_) (fun c_3 => ?_)
  ·
    refine lv_iload_n hx hb dX3_iceAfterHour_18 rfl (lv_at hl 0 rfl) ?_
    exact e0_i hx hb hr hlocks hP hS dX3_iceAfterHour_19 (by decide) (by decide) (by rw [iceA, if_neg c_3])
  ·
    refine lv_iconst (v := 0) hx hb dX3_iceAfterHour_6 (by decide) ?_
    refine lv_iload_n hx hb dX3_iceAfterHour_7 rfl (lv_at hl 0 rfl) ?_
    refine lv_iload_n hx hb dX3_iceAfterHour_8 rfl (lv_at hl 2 rfl) ?_
    refine lv_iconst (v := 5) hx hb dX3_iceAfterHour_9 (by decide) ?_
    refine lv_idiv hx hb dX3_iceAfterHour_10 (by decide) ?_
    refine lv_isub hx hb dX3_iceAfterHour_11 ?_
    refine va_mmax hx hb (hml.trans hl.1.symm) hown (hts _ mlX3_iceAfterHour_153) (hts _ msX3_iceAfterHour_max) (hts _ miX3_iceAfterHour) (hts _ mcX3_iceAfterHour_max) (Nat.le_of_ble_eq_true rfl) (Nat.le_of_ble_eq_true rfl) (Nat.le_of_ble_eq_true rfl) (Nat.le_of_ble_eq_true rfl) dX3_iceAfterHour_12 ?_
    refine lv_goto (tgt := 19) hx hb dX3_iceAfterHour_15 (by decide) ?_
    exact e0_i hx hb hr hlocks hP hS dX3_iceAfterHour_19 (by decide) (by decide) (by rw [iceA, if_pos c_3] <;> rfl)

set_option maxHeartbeats 4000000 in
set_option maxRecDepth 100000 in
theorem mX3_coldOfIce (l : Launch) (D : va_G) (cI cC cT cL : ClassId) (a : Int32) : M0 l yX3_coldOfIce wsX3_coldOfIce ({ frames := 0, cells := 0, slots := 0, locals := 0 } : Room) D (TY cI cC cT cL) [.int a] ([]) (some (.int (a / 4))) ([]) 0 0 := by
  refine M0_of (cc := cX3_coldOfIce) (maxL := 1) (ret := (some .int)) (by decide +kernel) rfl (Nat.le_of_ble_eq_true rfl) ?_
  intro p e s m args below meth c A0 B ls hl
  obtain ⟨hx, hb, hml, hr, hown, hts, hlocks, hK, hP, hD, hA, hST, hnm⟩ := B
  have hown : s.vm.findClass RX3 = some m.cls := hown
  have hS : va_S A0 s.heap s.heap [] := va_S.rf
  have hl : lv_has ls 1 [(0, .int a)] := hl
  refine lv_iload_n hx hb dX3_coldOfIce_0 rfl (lv_at hl 0 rfl) ?_
  refine lv_iconst (v := 4) hx hb dX3_coldOfIce_1 (by decide) ?_
  refine lv_idiv hx hb dX3_coldOfIce_2 (by decide) ?_
  exact e0_i hx hb hr hlocks hP hS dX3_coldOfIce_3 (by decide) (by decide) (rfl)

set_option maxHeartbeats 4000000 in
set_option maxRecDepth 100000 in
theorem mX3_coldWithBrine (l : Launch) (D : va_G) (cI cC cT cL : ClassId) (a b c0 : Int32) : M0 l yX3_coldWithBrine wsX3_coldWithBrine ({ frames := 1, cells := 0, slots := 0, locals := 29 } : Room) D (TY cI cC cT cL) [.int a, .int b, .int c0] ([]) (some (.int (brine a b c0))) ([]) 0 0 := by
  refine M0_of (cc := cX3_coldWithBrine) (maxL := 5) (ret := (some .int)) (by decide +kernel) rfl (Nat.le_of_ble_eq_true rfl) ?_
  intro p e s m args below meth c A0 B ls hl
  obtain ⟨hx, hb, hml, hr, hown, hts, hlocks, hK, hP, hD, hA, hST, hnm⟩ := B
  have hown : s.vm.findClass RX3 = some m.cls := hown
  have hS : va_S A0 s.heap s.heap [] := va_S.rf
  have hl : lv_has ls 5 [(0, .int a), (1, .int b), (2, .int c0)] := hl
  refine lv_iload_n hx hb dX3_coldWithBrine_0 rfl (lv_at hl 1 rfl) ?_
  refine c0_S (As := [.int b]) (rest := []) ⟨hx, hb, hml, hown, hts⟩ (mX3_coldOfIce l D cI cC cT cL b) (va_cwS 1 hts gX3_coldWithBrine_X3_coldOfIce rfl rfl rfl pX3_coldOfIce ⟨Nat.le_of_ble_eq_true rfl, Nat.le_of_ble_eq_true rfl⟩) hK hP hD hS hA hST (Jn_nil _) rfl hl.1 rfl (Nat.le_of_ble_eq_true rfl) dX3_coldWithBrine_1 ⟨Nat.le_of_ble_eq_true rfl, Nat.le_of_ble_eq_true rfl⟩ rfl (fun H locs hP hD hS => ?_)
  refine lv_istore_n (lv' := [(3, .int (b / 4)), (0, .int a), (1, .int b), (2, .int c0)]) hx hb dX3_coldWithBrine_4 rfl hl (by decide) rfl (fun ls hl => ?_)
  refine lv_iload_n hx hb dX3_coldWithBrine_5 rfl (lv_at hl 3 rfl) ?_
  refine lv_iconst (v := 2) hx hb dX3_coldWithBrine_6 (by decide) ?_
  refine lv_iload_n hx hb dX3_coldWithBrine_7 rfl (lv_at hl 0 rfl) ?_
  refine lv_imul hx hb dX3_coldWithBrine_8 ?_
  refine va_mmin hx hb (hml.trans hl.1.symm) hown (hts _ mlX3_coldWithBrine_38) (hts _ msX3_coldWithBrine_min) (hts _ miX3_coldWithBrine) (hts _ mcX3_coldWithBrine_min) (Nat.le_of_ble_eq_true rfl) (Nat.le_of_ble_eq_true rfl) (Nat.le_of_ble_eq_true rfl) (Nat.le_of_ble_eq_true rfl) dX3_coldWithBrine_9 ?_
  refine lv_istore (lv' := [(4, .int (imn c0 (2 * (b / 4)))), (3, .int (b / 4)), (0, .int a), (1, .int b), (2, .int c0)]) hx hb dX3_coldWithBrine_12 hl (by decide) rfl (fun ls hl => ?_)
  refine lv_bipush (v := 30) hx hb dX3_coldWithBrine_14 (by decide) ?_
  refine lv_iload_n hx hb dX3_coldWithBrine_16 rfl (lv_at hl 2 rfl) ?_
  refine lv_iload_n hx hb dX3_coldWithBrine_17 rfl (lv_at hl 1 rfl) ?_
  refine lv_iadd hx hb dX3_coldWithBrine_18 ?_
  refine lv_iload hx hb dX3_coldWithBrine_19 (lv_at hl 0 rfl) ?_
  refine lv_iadd hx hb dX3_coldWithBrine_21 ?_
  refine va_mmin hx hb (hml.trans hl.1.symm) hown (hts _ mlX3_coldWithBrine_38) (hts _ msX3_coldWithBrine_min) (hts _ miX3_coldWithBrine) (hts _ mcX3_coldWithBrine_min) (Nat.le_of_ble_eq_true rfl) (Nat.le_of_ble_eq_true rfl) (Nat.le_of_ble_eq_true rfl) (Nat.le_of_ble_eq_true rfl) dX3_coldWithBrine_22 ?_
  exact e0_i hx hb hr hlocks hP hS dX3_coldWithBrine_25 (by decide) (by decide) (rfl)

set_option maxHeartbeats 4000000 in
set_option maxRecDepth 100000 in
theorem mX3_mixed (l : Launch) (D : va_G) (cI cC cT cL : ClassId) (a b : Int64) : M0 l yX3_mixed wsX3_mixed ({ frames := 0, cells := 0, slots := 0, locals := 0 } : Room) D (TY cI cC cT cL) [.long a, .long b] ([]) (some (.long (a * 31 + b))) ([]) 0 0 := by
  refine M0_of (cc := cX3_mixed) (maxL := 4) (ret := (some .long)) (by decide +kernel) rfl (Nat.le_of_ble_eq_true rfl) ?_
  intro p e s m args below meth c A0 B ls hl
  obtain ⟨hx, hb, hml, hr, hown, hts, hlocks, hK, hP, hD, hA, hST, hnm⟩ := B
  have hown : s.vm.findClass RX3 = some m.cls := hown
  have hS : va_S A0 s.heap s.heap [] := va_S.rf
  have hl : lv_has ls 4 [(0, .long a), (2, .long b)] := hl
  refine lv_lload_n hx hb dX3_mixed_0 rfl (lv_at hl 0 rfl) ?_
  refine lv_ldc2 hx hb hown (hts _ kX3_mixed_184) dX3_mixed_1 ?_
  refine lv_lmul hx hb dX3_mixed_4 ?_
  refine lv_lload_n hx hb dX3_mixed_5 rfl (lv_at hl 1 rfl) ?_
  refine lv_ladd hx hb dX3_mixed_6 ?_
  exact e0_l hx hb hr hlocks hP hS dX3_mixed_7 (by decide) (by decide) (rfl)

set_option maxHeartbeats 4000000 in
set_option maxRecDepth 100000 in
theorem mJ9_floorMod_7cf53 (l : Launch) (D : va_G) (cI cC cT cL : ClassId) (a b : Int32) (hb0 : ¬ b = 0) : M0 l yJ9_floorMod_7cf53 wsJ9_floorMod_7cf53 ({ frames := 0, cells := 0, slots := 0, locals := 0 } : Room) D (TY cI cC cT cL) [.int a, .int b] ([]) (some (.int (fmod a b))) ([]) 0 0 := by
  refine M0_of (cc := cJ9_floorMod_7cf53) (maxL := 3) (ret := (some .int)) (by decide +kernel) rfl (Nat.le_of_ble_eq_true rfl) ?_
  intro p e s m args below meth c A0 B ls hl
  obtain ⟨hx, hb, hml, hr, hown, hts, hlocks, hK, hP, hD, hA, hST, hnm⟩ := B
  have hown : s.vm.findClass RJ9 = some m.cls := hown
  have hS : va_S A0 s.heap s.heap [] := va_S.rf
  have hl : lv_has ls 3 [(0, .int a), (1, .int b)] := hl
  refine lv_iload_n hx hb dJ9_floorMod_7cf53_0 rfl (lv_at hl 0 rfl) ?_
  refine lv_iload_n hx hb dJ9_floorMod_7cf53_1 rfl (lv_at hl 1 rfl) ?_
  refine lv_irem hx hb dJ9_floorMod_7cf53_2 hb0 ?_
  refine lv_istore_n (lv' := [(2, .int (a - a / b * b)), (0, .int a), (1, .int b)]) hx hb dJ9_floorMod_7cf53_3 rfl hl (by decide) rfl (fun ls hl => ?_)
  refine lv_iload_n hx hb dJ9_floorMod_7cf53_4 rfl (lv_at hl 1 rfl) ?_
  refine lv_iload_n hx hb dJ9_floorMod_7cf53_5 rfl (lv_at hl 2 rfl) ?_
  refine lv_ixor hx hb dJ9_floorMod_7cf53_6 ?_
  refine lv_if_ge (tgt := 18) hx hb dJ9_floorMod_7cf53_7 (by decide) (fun c_7 => ?_) (fun c_7 => ?_)
  ·
    refine lv_iload_n hx hb dJ9_floorMod_7cf53_18 rfl (lv_at hl 0 rfl) ?_
    exact e0_i hx hb hr hlocks hP hS dJ9_floorMod_7cf53_19 (by decide) (by decide) (by rw [fmod, if_pos c_7])
  ·
    refine lv_iload_n hx hb dJ9_floorMod_7cf53_10 rfl (lv_at hl 0 rfl) ?_
    refine lv_if_eq (tgt := 18) hx hb dJ9_floorMod_7cf53_11 (by decide) (fun c_11 => ?_) (fun c_11 => ?_)
    ·
      refine lv_iload_n hx hb dJ9_floorMod_7cf53_18 rfl (lv_at hl 0 rfl) ?_
      exact e0_i hx hb hr hlocks hP hS dJ9_floorMod_7cf53_19 (by decide) (by decide) (by rw [fmod, if_neg c_7, if_pos c_11])
    ·
      refine lv_iload_n hx hb dJ9_floorMod_7cf53_14 rfl (lv_at hl 0 rfl) ?_
      refine lv_iload_n hx hb dJ9_floorMod_7cf53_15 rfl (lv_at hl 2 rfl) ?_
      refine lv_iadd hx hb dJ9_floorMod_7cf53_16 ?_
      exact e0_i hx hb hr hlocks hP hS dJ9_floorMod_7cf53_17 (by decide) (by decide) (by rw [fmod, if_neg c_7, if_neg c_11])

set_option maxHeartbeats 4000000 in
set_option maxRecDepth 100000 in
theorem mX1_number_0 (l : Launch) (D : va_G) (cI cC cT cL : ClassId) (h0 : Nat) (a b d : Int32) : M0 l yX1_number wsX1_number ({ frames := 0, cells := 0, slots := 0, locals := 0 } : Room) D (TY cI cC cT cL) [.ref h0, .int 0] ([(h0, .inr (1, [.int a, .int b, .int d]))]) (some (.int a)) ([(h0, .inr (1, [.int a, .int b, .int d]))]) 0 0 := by
  refine M0_of (cc := cX1_number) (maxL := 2) (ret := (some .int)) (by decide +kernel) rfl (Nat.le_of_ble_eq_true rfl) ?_
  intro p e s m args below meth c A0 B ls hl
  obtain ⟨hx, hb, hml, hr, hown, hts, hlocks, hK, hP, hD, hA, hST, hnm⟩ := B
  have hown : s.vm.findClass RX1 = some m.cls := hown
  have hS : va_S A0 s.heap s.heap [] := va_S.rf
  have hl : lv_has ls 2 [(0, .ref h0), (1, .int 0)] := hl
  refine lv_iload_n hx hb dX1_number_0 rfl (lv_at hl 1 rfl) ?_
  refine lv_lookup (tgt := 28) hx hb dX1_number_1 (by decide) rfl (by decide) ?_
  refine lv_aload_n hx hb dX1_number_28 rfl (lv_at hl 0 rfl) ?_
  refine w_get hx hb hts iX1_number_X1 hown hK hP 0 rfl rfl 0 (by decide) fX1_number_7 rfl rfl dX1_number_29 ?_
  exact e0_i hx hb hr hlocks hP hS dX1_number_32 (by decide) (by decide) (rfl)

set_option maxHeartbeats 4000000 in
set_option maxRecDepth 100000 in
theorem mX2_number_0 (l : Launch) (D : va_G) (cI cC cT cL : ClassId) (h0 : Nat) (a b d : Int32) : M0 l yX2_number wsX2_number ({ frames := 0, cells := 0, slots := 0, locals := 0 } : Room) D (TY cI cC cT cL) [.ref h0, .int 0] ([(h0, .inr (2, [.int a, .int b, .int d]))]) (some (.int a)) ([(h0, .inr (2, [.int a, .int b, .int d]))]) 0 0 := by
  refine M0_of (cc := cX2_number) (maxL := 2) (ret := (some .int)) (by decide +kernel) rfl (Nat.le_of_ble_eq_true rfl) ?_
  intro p e s m args below meth c A0 B ls hl
  obtain ⟨hx, hb, hml, hr, hown, hts, hlocks, hK, hP, hD, hA, hST, hnm⟩ := B
  have hown : s.vm.findClass RX2 = some m.cls := hown
  have hS : va_S A0 s.heap s.heap [] := va_S.rf
  have hl : lv_has ls 2 [(0, .ref h0), (1, .int 0)] := hl
  refine lv_iload_n hx hb dX2_number_0 rfl (lv_at hl 1 rfl) ?_
  refine lv_lookup (tgt := 28) hx hb dX2_number_1 (by decide) rfl (by decide) ?_
  refine lv_aload_n hx hb dX2_number_28 rfl (lv_at hl 0 rfl) ?_
  refine w_get hx hb hts iX2_number_X2 hown hK hP 0 rfl rfl 0 (by decide) fX2_number_9 rfl rfl dX2_number_29 ?_
  exact e0_i hx hb hr hlocks hP hS dX2_number_32 (by decide) (by decide) (rfl)

set_option maxHeartbeats 4000000 in
set_option maxRecDepth 100000 in
theorem mX1_number_1 (l : Launch) (D : va_G) (cI cC cT cL : ClassId) (h0 : Nat) (a b d : Int32) : M0 l yX1_number wsX1_number ({ frames := 0, cells := 0, slots := 0, locals := 0 } : Room) D (TY cI cC cT cL) [.ref h0, .int 1] ([(h0, .inr (1, [.int a, .int b, .int d]))]) (some (.int b)) ([(h0, .inr (1, [.int a, .int b, .int d]))]) 0 0 := by
  refine M0_of (cc := cX1_number) (maxL := 2) (ret := (some .int)) (by decide +kernel) rfl (Nat.le_of_ble_eq_true rfl) ?_
  intro p e s m args below meth c A0 B ls hl
  obtain ⟨hx, hb, hml, hr, hown, hts, hlocks, hK, hP, hD, hA, hST, hnm⟩ := B
  have hown : s.vm.findClass RX1 = some m.cls := hown
  have hS : va_S A0 s.heap s.heap [] := va_S.rf
  have hl : lv_has ls 2 [(0, .ref h0), (1, .int 1)] := hl
  refine lv_iload_n hx hb dX1_number_0 rfl (lv_at hl 1 rfl) ?_
  refine lv_lookup (tgt := 33) hx hb dX1_number_1 (by decide) rfl (by decide) ?_
  refine lv_aload_n hx hb dX1_number_33 rfl (lv_at hl 0 rfl) ?_
  refine w_get hx hb hts iX1_number_X1 hown hK hP 0 rfl rfl 1 (by decide) fX1_number_13 rfl rfl dX1_number_34 ?_
  exact e0_i hx hb hr hlocks hP hS dX1_number_37 (by decide) (by decide) (rfl)

set_option maxHeartbeats 4000000 in
set_option maxRecDepth 100000 in
theorem mX2_number_1 (l : Launch) (D : va_G) (cI cC cT cL : ClassId) (h0 : Nat) (a b d : Int32) : M0 l yX2_number wsX2_number ({ frames := 0, cells := 0, slots := 0, locals := 0 } : Room) D (TY cI cC cT cL) [.ref h0, .int 1] ([(h0, .inr (2, [.int a, .int b, .int d]))]) (some (.int b)) ([(h0, .inr (2, [.int a, .int b, .int d]))]) 0 0 := by
  refine M0_of (cc := cX2_number) (maxL := 2) (ret := (some .int)) (by decide +kernel) rfl (Nat.le_of_ble_eq_true rfl) ?_
  intro p e s m args below meth c A0 B ls hl
  obtain ⟨hx, hb, hml, hr, hown, hts, hlocks, hK, hP, hD, hA, hST, hnm⟩ := B
  have hown : s.vm.findClass RX2 = some m.cls := hown
  have hS : va_S A0 s.heap s.heap [] := va_S.rf
  have hl : lv_has ls 2 [(0, .ref h0), (1, .int 1)] := hl
  refine lv_iload_n hx hb dX2_number_0 rfl (lv_at hl 1 rfl) ?_
  refine lv_lookup (tgt := 33) hx hb dX2_number_1 (by decide) rfl (by decide) ?_
  refine lv_aload_n hx hb dX2_number_33 rfl (lv_at hl 0 rfl) ?_
  refine w_get hx hb hts iX2_number_X2 hown hK hP 0 rfl rfl 1 (by decide) fX2_number_15 rfl rfl dX2_number_34 ?_
  exact e0_i hx hb hr hlocks hP hS dX2_number_37 (by decide) (by decide) (rfl)

set_option maxHeartbeats 4000000 in
set_option maxRecDepth 100000 in
theorem mX1_number_2 (l : Launch) (D : va_G) (cI cC cT cL : ClassId) (h0 : Nat) (a b d : Int32) : M0 l yX1_number wsX1_number ({ frames := 0, cells := 0, slots := 0, locals := 0 } : Room) D (TY cI cC cT cL) [.ref h0, .int 2] ([(h0, .inr (1, [.int a, .int b, .int d]))]) (some (.int d)) ([(h0, .inr (1, [.int a, .int b, .int d]))]) 0 0 := by
  refine M0_of (cc := cX1_number) (maxL := 2) (ret := (some .int)) (by decide +kernel) rfl (Nat.le_of_ble_eq_true rfl) ?_
  intro p e s m args below meth c A0 B ls hl
  obtain ⟨hx, hb, hml, hr, hown, hts, hlocks, hK, hP, hD, hA, hST, hnm⟩ := B
  have hown : s.vm.findClass RX1 = some m.cls := hown
  have hS : va_S A0 s.heap s.heap [] := va_S.rf
  have hl : lv_has ls 2 [(0, .ref h0), (1, .int 2)] := hl
  refine lv_iload_n hx hb dX1_number_0 rfl (lv_at hl 1 rfl) ?_
  refine lv_lookup (tgt := 38) hx hb dX1_number_1 (by decide) rfl (by decide) ?_
  refine lv_aload_n hx hb dX1_number_38 rfl (lv_at hl 0 rfl) ?_
  refine w_get hx hb hts iX1_number_X1 hown hK hP 0 rfl rfl 2 (by decide) fX1_number_16 rfl rfl dX1_number_39 ?_
  exact e0_i hx hb hr hlocks hP hS dX1_number_42 (by decide) (by decide) (rfl)

set_option maxHeartbeats 4000000 in
set_option maxRecDepth 100000 in
theorem mX2_number_2 (l : Launch) (D : va_G) (cI cC cT cL : ClassId) (h0 : Nat) (a b d : Int32) : M0 l yX2_number wsX2_number ({ frames := 0, cells := 0, slots := 0, locals := 0 } : Room) D (TY cI cC cT cL) [.ref h0, .int 2] ([(h0, .inr (2, [.int a, .int b, .int d]))]) (some (.int d)) ([(h0, .inr (2, [.int a, .int b, .int d]))]) 0 0 := by
  refine M0_of (cc := cX2_number) (maxL := 2) (ret := (some .int)) (by decide +kernel) rfl (Nat.le_of_ble_eq_true rfl) ?_
  intro p e s m args below meth c A0 B ls hl
  obtain ⟨hx, hb, hml, hr, hown, hts, hlocks, hK, hP, hD, hA, hST, hnm⟩ := B
  have hown : s.vm.findClass RX2 = some m.cls := hown
  have hS : va_S A0 s.heap s.heap [] := va_S.rf
  have hl : lv_has ls 2 [(0, .ref h0), (1, .int 2)] := hl
  refine lv_iload_n hx hb dX2_number_0 rfl (lv_at hl 1 rfl) ?_
  refine lv_lookup (tgt := 38) hx hb dX2_number_1 (by decide) rfl (by decide) ?_
  refine lv_aload_n hx hb dX2_number_38 rfl (lv_at hl 0 rfl) ?_
  refine w_get hx hb hts iX2_number_X2 hown hK hP 0 rfl rfl 2 (by decide) fX2_number_18 rfl rfl dX2_number_39 ?_
  exact e0_i hx hb hr hlocks hP hS dX2_number_42 (by decide) (by decide) (rfl)

theorem mX1_number (l : Launch) (D : va_G) (cI cC cT cL : ClassId) (h0 : Nat) (a b d : Int32) (w : Nat) (hw : w < 3) : M0 l yX1_number wsX1_number ({ frames := 0, cells := 0, slots := 0, locals := 0 } : Room) D (TY cI cC cT cL) [.ref h0, .int (nI w)] [(h0, .inr (1, [.int a, .int b, .int d]))] (some (.int (pick3 w a b d))) [(h0, .inr (1, [.int a, .int b, .int d]))] 0 0 := by
  match w, hw with
  | 0, _ => exact mX1_number_0 l D cI cC cT cL h0 a b d
  | 1, _ => exact mX1_number_1 l D cI cC cT cL h0 a b d
  | 2, _ => exact mX1_number_2 l D cI cC cT cL h0 a b d

theorem mX2_number (l : Launch) (D : va_G) (cI cC cT cL : ClassId) (h0 : Nat) (a b d : Int32) (w : Nat) (hw : w < 3) : M0 l yX2_number wsX2_number ({ frames := 0, cells := 0, slots := 0, locals := 0 } : Room) D (TY cI cC cT cL) [.ref h0, .int (nI w)] [(h0, .inr (2, [.int a, .int b, .int d]))] (some (.int (pick3 w a b d))) [(h0, .inr (2, [.int a, .int b, .int d]))] 0 0 := by
  match w, hw with
  | 0, _ => exact mX2_number_0 l D cI cC cT cL h0 a b d
  | 1, _ => exact mX2_number_1 l D cI cC cT cL h0 a b d
  | 2, _ => exact mX2_number_2 l D cI cC cT cL h0 a b d

set_option maxHeartbeats 4000000 in
set_option maxRecDepth 100000 in
theorem mX1_add (l : Launch) (D : va_G) (cI cC cT cL : ClassId) (h0 : Nat) (a b d m0 : Int32) : M0 l yX1_add wsX1_add ({ frames := 0, cells := 0, slots := 0, locals := 0 } : Room) D (TY cI cC cT cL) [.ref h0, .int m0] ([(h0, .inr (1, [.int a, .int b, .int d]))]) (none) ([(h0, .inr (1, [.int a, .int (b + m0), .int (addF a b d m0)]))]) 0 0 := by
  refine M0_of (cc := cX1_add) (maxL := 3) (ret := none) (by decide +kernel) rfl (Nat.le_of_ble_eq_true rfl) ?_
  intro p e s m args below meth c A0 B ls hl
  obtain ⟨hx, hb, hml, hr, hown, hts, hlocks, hK, hP, hD, hA, hST, hnm⟩ := B
  have hown : s.vm.findClass RX1 = some m.cls := hown
  have hS : va_S A0 s.heap s.heap [] := va_S.rf
  have hl : lv_has ls 3 [(0, .ref h0), (1, .int m0)] := hl
  refine lv_aload_n hx hb dX1_add_0 rfl (lv_at hl 0 rfl) ?_
  refine w_get hx hb hts iX1_add_X1 hown hK hP 0 rfl rfl 1 (by decide) fX1_add_13 rfl rfl dX1_add_1 ?_
  refine lv_istore_n (lv' := [(2, .int b), (0, .ref h0), (1, .int m0)]) hx hb dX1_add_4 rfl hl (by decide) rfl (fun ls hl => ?_)
  refine lv_aload_n hx hb dX1_add_5 rfl (lv_at hl 1 rfl) ?_
  refine lv_iload_n hx hb dX1_add_6 rfl (lv_at hl 0 rfl) ?_
  refine lv_iload_n hx hb dX1_add_7 rfl (lv_at hl 2 rfl) ?_
  refine lv_iadd hx hb dX1_add_8 ?_
  refine w_put (C := RX1) hx hb hts iX1_add_X1 tyX1_ok nmX1 hown hK hP hD hS 0 rfl rfl 1 (by decide) fX1_add_13 rfl rfl rfl rfl (Nat.le_of_ble_eq_true rfl) (ws' := [(h0, .inr (1, [.int a, .int (b + m0), .int d]))]) rfl dX1_add_9 (fun H locs hP hD hS => ?_)
  refine lv_aload_n hx hb dX1_add_12 rfl (lv_at hl 1 rfl) ?_
  refine lv_aload_n hx hb dX1_add_13 rfl (lv_at hl 1 rfl) ?_
  refine w_get hx hb hts iX1_add_X1 hown hK hP 0 rfl rfl 1 (by decide) fX1_add_13 rfl rfl dX1_add_14 ?_
  refine lv_if_ne (tgt := 24) hx hb dX1_add_17 (by decide) (fun c_17 => ?_) (fun c_17 => ?_)
  ·
    refine lv_aload_n hx hb dX1_add_24 rfl (lv_at hl 1 rfl) ?_
    refine w_get hx hb hts iX1_add_X1 hown hK hP 0 rfl rfl 2 (by decide) fX1_add_16 rfl rfl dX1_add_25 ?_
    refine lv_iload_n hx hb dX1_add_28 rfl (lv_at hl 0 rfl) ?_
    refine lv_imul hx hb dX1_add_29 ?_
    refine lv_aload_n hx hb dX1_add_30 rfl (lv_at hl 1 rfl) ?_
    refine w_get hx hb hts iX1_add_X1 hown hK hP 0 rfl rfl 1 (by decide) fX1_add_13 rfl rfl dX1_add_31 ?_
    refine lv_idiv hx hb dX1_add_34 c_17 ?_
    refine w_put (C := RX1) hx hb hts iX1_add_X1 tyX1_ok nmX1 hown hK hP hD hS 0 rfl rfl 2 (by decide) fX1_add_16 rfl rfl rfl rfl (Nat.le_of_ble_eq_true rfl) (ws' := [(h0, .inr (1, [.int a, .int (b + m0), .int ((d * b) / (b + m0))]))]) rfl dX1_add_35 (fun H locs hP hD hS => ?_)
    exact e0_v hx hb hr hlocks (P_eq (by rw [addF, if_neg c_17]) hP) hS dX1_add_38 (by decide) (by decide) (rfl)
  ·
    refine lv_iconst (v := 0) hx hb dX1_add_20 (by decide) ?_
    refine lv_goto (tgt := 35) hx hb dX1_add_21 (by decide) ?_
    refine w_put (C := RX1) hx hb hts iX1_add_X1 tyX1_ok nmX1 hown hK hP hD hS 0 rfl rfl 2 (by decide) fX1_add_16 rfl rfl rfl rfl (Nat.le_of_ble_eq_true rfl) (ws' := [(h0, .inr (1, [.int a, .int (b + m0), .int 0]))]) rfl dX1_add_35 (fun H locs hP hD hS => ?_)
    exact e0_v hx hb hr hlocks (P_eq (by rw [addF, if_pos c_17]) hP) hS dX1_add_38 (by decide) (by decide) (rfl)

set_option maxHeartbeats 4000000 in
set_option maxRecDepth 100000 in
theorem mX1_turn (l : Launch) (D : va_G) (cI cC cT cL : ClassId) (h0 : Nat) (a b d q : Int32) : M0 l yX1_turn wsX1_turn ({ frames := 2, cells := 0, slots := 0, locals := 42 } : Room) D (TY cI cC cT cL) [.ref h0, .int q] ([(h0, .inr (1, [.int a, .int b, .int d]))]) (none) ([(h0, .inr (1, [.int (coldA a q), .int b, .int (turnF a b d)]))]) 0 0 := by
  refine M0_of (cc := cX1_turn) (maxL := 2) (ret := none) (by decide +kernel) rfl (Nat.le_of_ble_eq_true rfl) ?_
  intro p e s m args below meth c A0 B ls hl
  obtain ⟨hx, hb, hml, hr, hown, hts, hlocks, hK, hP, hD, hA, hST, hnm⟩ := B
  have hown : s.vm.findClass RX1 = some m.cls := hown
  have hS : va_S A0 s.heap s.heap [] := va_S.rf
  have hl : lv_has ls 2 [(0, .ref h0), (1, .int q)] := hl
  refine lv_aload_n hx hb dX1_turn_0 rfl (lv_at hl 0 rfl) ?_
  refine w_get hx hb hts iX1_turn_X1 hown hK hP 0 rfl rfl 1 (by decide) fX1_turn_13 rfl rfl dX1_turn_1 ?_
  refine lv_if_le (tgt := 22) hx hb dX1_turn_4 (by decide) (fun c_4 => ?_) (fun c_4 => ?_)
  ·
    refine lv_aload_n hx hb dX1_turn_22 rfl (lv_at hl 0 rfl) ?_
    refine lv_aload_n hx hb dX1_turn_23 rfl (lv_at hl 0 rfl) ?_
    refine w_get hx hb hts iX1_turn_X1 hown hK hP 0 rfl rfl 0 (by decide) fX1_turn_7 rfl rfl dX1_turn_24 ?_
    refine lv_iload_n hx hb dX1_turn_27 rfl (lv_at hl 1 rfl) ?_
    refine c0_SN (As := [.int a, .int q]) (rest := [.ref h0]) ⟨hx, hb, hml, hown, hts⟩ (mX3_coldAfterHour l D cI cC cT cL a q) ⟨va_cnB 2 hts gX1_turn_X3_coldAfterHour_n25 rfl rfl rfl (hST.2.1 _ (List.mem_of_getElem? (i := 4) rfl)) (hts _ inX1_turn_X3) pX3_coldAfterHour ⟨Nat.le_of_ble_eq_true rfl, Nat.le_of_ble_eq_true rfl⟩, hts _ stX1_turn_X3_coldAfterHour, trivial⟩ hK hP hD hS hA hST (Jn_nil _) rfl hl.1 rfl (Nat.le_of_ble_eq_true rfl) dX1_turn_28 ⟨Nat.le_of_ble_eq_true rfl, Nat.le_of_ble_eq_true rfl⟩ rfl (fun H locs hP hD hS => ?_)
    refine w_put (C := RX1) hx hb hts iX1_turn_X1 tyX1_ok nmX1 hown hK hP hD hS 0 rfl rfl 0 (by decide) fX1_turn_7 rfl rfl rfl rfl (Nat.le_of_ble_eq_true rfl) (ws' := [(h0, .inr (1, [.int (coldA a q), .int b, .int d]))]) rfl dX1_turn_31 (fun H locs hP hD hS => ?_)
    exact e0_v hx hb hr hlocks (P_eq (by rw [turnF, if_neg (fun h => absurd c_4 (Int32.not_le.mpr h))]) hP) hS dX1_turn_34 (by decide) (by decide) (rfl)
  ·
    refine lv_aload_n hx hb dX1_turn_7 rfl (lv_at hl 0 rfl) ?_
    refine lv_aload_n hx hb dX1_turn_8 rfl (lv_at hl 0 rfl) ?_
    refine w_get hx hb hts iX1_turn_X1 hown hK hP 0 rfl rfl 2 (by decide) fX1_turn_16 rfl rfl dX1_turn_9 ?_
    refine lv_aload_n hx hb dX1_turn_12 rfl (lv_at hl 0 rfl) ?_
    refine w_get hx hb hts iX1_turn_X1 hown hK hP 0 rfl rfl 0 (by decide) fX1_turn_7 rfl rfl dX1_turn_13 ?_
    refine c0_SN (As := [.int d, .int a]) (rest := [.ref h0]) ⟨hx, hb, hml, hown, hts⟩ (mX3_firmAfterHour l D cI cC cT cL d a) ⟨va_cnB 2 hts gX1_turn_X3_firmAfterHour_n19 rfl rfl rfl (hST.2.1 _ (List.mem_of_getElem? (i := 3) rfl)) (hts _ inX1_turn_X3) pX3_firmAfterHour ⟨Nat.le_of_ble_eq_true rfl, Nat.le_of_ble_eq_true rfl⟩, hts _ stX1_turn_X3_firmAfterHour, trivial⟩ hK hP hD hS hA hST (Jn_nil _) rfl hl.1 rfl (Nat.le_of_ble_eq_true rfl) dX1_turn_16 ⟨Nat.le_of_ble_eq_true rfl, Nat.le_of_ble_eq_true rfl⟩ rfl (fun H locs hP hD hS => ?_)
    refine w_put (C := RX1) hx hb hts iX1_turn_X1 tyX1_ok nmX1 hown hK hP hD hS 0 rfl rfl 2 (by decide) fX1_turn_16 rfl rfl rfl rfl (Nat.le_of_ble_eq_true rfl) (ws' := [(h0, .inr (1, [.int a, .int b, .int (firmA d a)]))]) rfl dX1_turn_19 (fun H locs hP hD hS => ?_)
    refine lv_aload_n hx hb dX1_turn_22 rfl (lv_at hl 0 rfl) ?_
    refine lv_aload_n hx hb dX1_turn_23 rfl (lv_at hl 0 rfl) ?_
    refine w_get hx hb hts iX1_turn_X1 hown hK hP 0 rfl rfl 0 (by decide) fX1_turn_7 rfl rfl dX1_turn_24 ?_
    refine lv_iload_n hx hb dX1_turn_27 rfl (lv_at hl 1 rfl) ?_
    refine c0_SN (As := [.int a, .int q]) (rest := [.ref h0]) ⟨hx, hb, hml, hown, hts⟩ (mX3_coldAfterHour l D cI cC cT cL a q) ⟨va_cnB 2 hts gX1_turn_X3_coldAfterHour_n25 rfl rfl rfl (hST.2.1 _ (List.mem_of_getElem? (i := 4) rfl)) (hts _ inX1_turn_X3) pX3_coldAfterHour ⟨Nat.le_of_ble_eq_true rfl, Nat.le_of_ble_eq_true rfl⟩, hts _ stX1_turn_X3_coldAfterHour, trivial⟩ hK hP hD hS hA hST (Jn_nil _) rfl hl.1 rfl (Nat.le_of_ble_eq_true rfl) dX1_turn_28 ⟨Nat.le_of_ble_eq_true rfl, Nat.le_of_ble_eq_true rfl⟩ rfl (fun H locs hP hD hS => ?_)
    refine w_put (C := RX1) hx hb hts iX1_turn_X1 tyX1_ok nmX1 hown hK hP hD hS 0 rfl rfl 0 (by decide) fX1_turn_7 rfl rfl rfl rfl (Nat.le_of_ble_eq_true rfl) (ws' := [(h0, .inr (1, [.int (coldA a q), .int b, .int (firmA d a)]))]) rfl dX1_turn_31 (fun H locs hP hD hS => ?_)
    exact e0_v hx hb hr hlocks (P_eq (by rw [turnF, if_pos (Int32.not_le.mp c_4)]) hP) hS dX1_turn_34 (by decide) (by decide) (rfl)

set_option maxHeartbeats 4000000 in
set_option maxRecDepth 100000 in
theorem mX2_standInHeat (l : Launch) (D : va_G) (cI cC cT cL : ClassId) (h0 : Nat) (a b d q ic : Int32) : M0 l yX2_standInHeat wsX2_standInHeat ({ frames := 1, cells := 0, slots := 0, locals := 21 } : Room) D (TY cI cC cT cL) [.ref h0, .int q, .int ic] ([(h0, .inr (2, [.int a, .int b, .int d]))]) (none) ([(h0, .inr (2, [.int (standA a b q ic), .int (standB a b q ic), .int d]))]) 0 0 := by
  refine M0_of (cc := cX2_standInHeat) (maxL := 3) (ret := none) (by decide +kernel) rfl (Nat.le_of_ble_eq_true rfl) ?_
  intro p e s m args below meth c A0 B ls hl
  obtain ⟨hx, hb, hml, hr, hown, hts, hlocks, hK, hP, hD, hA, hST, hnm⟩ := B
  have hown : s.vm.findClass RX2 = some m.cls := hown
  have hS : va_S A0 s.heap s.heap [] := va_S.rf
  have hl : lv_has ls 3 [(0, .ref h0), (1, .int q), (2, .int ic)] := hl
  refine lv_aload_n hx hb dX2_standInHeat_0 rfl (lv_at hl 0 rfl) ?_
  refine w_get hx hb hts iX2_standInHeat_X2 hown hK hP 0 rfl rfl 0 (by decide) fX2_standInHeat_9 rfl rfl dX2_standInHeat_1 ?_
  refine lv_if_ne (tgt := 8) hx hb dX2_standInHeat_4 (by decide) (fun c_4 => ?_) (fun c_4 => ?_)
  ·
    refine lv_iload_n hx hb dX2_standInHeat_8 rfl (lv_at hl 1 rfl) ?_
    refine lv_bipush (v := 20) hx hb dX2_standInHeat_9 (by decide) ?_
    refine lv_icmp_le (tgt := 45) hx hb dX2_standInHeat_11 (by decide) (fun c_11 => ?_) (fun c_11 => ?_)
    ·
      refine lv_aload_n hx hb dX2_standInHeat_45 rfl (lv_at hl 0 rfl) ?_
      refine lv_iconst (v := 0) hx hb dX2_standInHeat_46 (by decide) ?_
      refine lv_aload_n hx hb dX2_standInHeat_47 rfl (lv_at hl 0 rfl) ?_
      refine w_get hx hb hts iX2_standInHeat_X2 hown hK hP 0 rfl rfl 1 (by decide) fX2_standInHeat_15 rfl rfl dX2_standInHeat_48 ?_
      refine lv_iconst (v := 1) hx hb dX2_standInHeat_51 (by decide) ?_
      refine lv_isub hx hb dX2_standInHeat_52 ?_
      refine va_mmax hx hb (hml.trans hl.1.symm) hown (hts _ mlX2_standInHeat_27) (hts _ msX2_standInHeat_max) (hts _ miX2_standInHeat) (hts _ mcX2_standInHeat_max) (Nat.le_of_ble_eq_true rfl) (Nat.le_of_ble_eq_true rfl) (Nat.le_of_ble_eq_true rfl) (Nat.le_of_ble_eq_true rfl) dX2_standInHeat_53 ?_
      refine w_put (C := RX2) hx hb hts iX2_standInHeat_X2 tyX2_ok nmX2 hown hK hP hD hS 0 rfl rfl 1 (by decide) fX2_standInHeat_15 rfl rfl rfl rfl (Nat.le_of_ble_eq_true rfl) (ws' := [(h0, .inr (2, [.int a, .int (imx 0 (b - 1)), .int d]))]) rfl dX2_standInHeat_56 (fun H locs hP hD hS => ?_)
      refine lv_aload_n hx hb dX2_standInHeat_59 rfl (lv_at hl 0 rfl) ?_
      refine w_get hx hb hts iX2_standInHeat_X2 hown hK hP 0 rfl rfl 1 (by decide) fX2_standInHeat_15 rfl rfl dX2_standInHeat_60 ?_
      refine lv_bipush (v := 100) hx hb dX2_standInHeat_63 (by decide) ?_
      refine lv_icmp_ne (tgt := 82) hx hb dX2_standInHeat_65 (by decide) (fun c_65 => ?_) (fun c_65 => ?_)
      ·
        exact e0_v hx hb hr hlocks (P_eq (by have hs : softB b q ic = imx 0 (b - 1) := if_neg (fun h => absurd c_11 (Int32.not_le.mpr h.1)); rw [standA, standB, if_neg c_4, if_neg c_4, hs, if_neg c_65]) hP) hS dX2_standInHeat_82 (by decide) (by decide) (rfl)
      ·
        refine lv_aload_n hx hb dX2_standInHeat_68 rfl (lv_at hl 0 rfl) ?_
        refine lv_iconst (v := 0) hx hb dX2_standInHeat_69 (by decide) ?_
        refine lv_aload_n hx hb dX2_standInHeat_70 rfl (lv_at hl 0 rfl) ?_
        refine w_get hx hb hts iX2_standInHeat_X2 hown hK hP 0 rfl rfl 0 (by decide) fX2_standInHeat_9 rfl rfl dX2_standInHeat_71 ?_
        refine lv_iconst (v := 2) hx hb dX2_standInHeat_74 (by decide) ?_
        refine lv_isub hx hb dX2_standInHeat_75 ?_
        refine va_mmax hx hb (hml.trans hl.1.symm) hown (hts _ mlX2_standInHeat_27) (hts _ msX2_standInHeat_max) (hts _ miX2_standInHeat) (hts _ mcX2_standInHeat_max) (Nat.le_of_ble_eq_true rfl) (Nat.le_of_ble_eq_true rfl) (Nat.le_of_ble_eq_true rfl) (Nat.le_of_ble_eq_true rfl) dX2_standInHeat_76 ?_
        refine w_put (C := RX2) hx hb hts iX2_standInHeat_X2 tyX2_ok nmX2 hown hK hP hD hS 0 rfl rfl 0 (by decide) fX2_standInHeat_9 rfl rfl rfl rfl (Nat.le_of_ble_eq_true rfl) (ws' := [(h0, .inr (2, [.int (imx 0 (a - 2)), .int (imx 0 (b - 1)), .int d]))]) rfl dX2_standInHeat_79 (fun H locs hP hD hS => ?_)
        exact e0_v hx hb hr hlocks (P_eq (by have hs : softB b q ic = imx 0 (b - 1) := if_neg (fun h => absurd c_11 (Int32.not_le.mpr h.1)); rw [standA, standB, if_neg c_4, if_neg c_4, hs, if_pos c_65] <;> rfl) hP) hS dX2_standInHeat_82 (by decide) (by decide) (rfl)
    ·
      refine lv_iload_n hx hb dX2_standInHeat_14 rfl (lv_at hl 2 rfl) ?_
      refine lv_bipush (v := 100) hx hb dX2_standInHeat_15 (by decide) ?_
      refine lv_icmp_ge (tgt := 45) hx hb dX2_standInHeat_17 (by decide) (fun c_17 => ?_) (fun c_17 => ?_)
      ·
        refine lv_aload_n hx hb dX2_standInHeat_45 rfl (lv_at hl 0 rfl) ?_
        refine lv_iconst (v := 0) hx hb dX2_standInHeat_46 (by decide) ?_
        refine lv_aload_n hx hb dX2_standInHeat_47 rfl (lv_at hl 0 rfl) ?_
        refine w_get hx hb hts iX2_standInHeat_X2 hown hK hP 0 rfl rfl 1 (by decide) fX2_standInHeat_15 rfl rfl dX2_standInHeat_48 ?_
        refine lv_iconst (v := 1) hx hb dX2_standInHeat_51 (by decide) ?_
        refine lv_isub hx hb dX2_standInHeat_52 ?_
        refine va_mmax hx hb (hml.trans hl.1.symm) hown (hts _ mlX2_standInHeat_27) (hts _ msX2_standInHeat_max) (hts _ miX2_standInHeat) (hts _ mcX2_standInHeat_max) (Nat.le_of_ble_eq_true rfl) (Nat.le_of_ble_eq_true rfl) (Nat.le_of_ble_eq_true rfl) (Nat.le_of_ble_eq_true rfl) dX2_standInHeat_53 ?_
        refine w_put (C := RX2) hx hb hts iX2_standInHeat_X2 tyX2_ok nmX2 hown hK hP hD hS 0 rfl rfl 1 (by decide) fX2_standInHeat_15 rfl rfl rfl rfl (Nat.le_of_ble_eq_true rfl) (ws' := [(h0, .inr (2, [.int a, .int (imx 0 (b - 1)), .int d]))]) rfl dX2_standInHeat_56 (fun H locs hP hD hS => ?_)
        refine lv_aload_n hx hb dX2_standInHeat_59 rfl (lv_at hl 0 rfl) ?_
        refine w_get hx hb hts iX2_standInHeat_X2 hown hK hP 0 rfl rfl 1 (by decide) fX2_standInHeat_15 rfl rfl dX2_standInHeat_60 ?_
        refine lv_bipush (v := 100) hx hb dX2_standInHeat_63 (by decide) ?_
        refine lv_icmp_ne (tgt := 82) hx hb dX2_standInHeat_65 (by decide) (fun c_65 => ?_) (fun c_65 => ?_)
        ·
          exact e0_v hx hb hr hlocks (P_eq (by have hs : softB b q ic = imx 0 (b - 1) := if_neg (fun h => absurd c_17 (Int32.not_le.mpr h.2)); rw [standA, standB, if_neg c_4, if_neg c_4, hs, if_neg c_65]) hP) hS dX2_standInHeat_82 (by decide) (by decide) (rfl)
        ·
          refine lv_aload_n hx hb dX2_standInHeat_68 rfl (lv_at hl 0 rfl) ?_
          refine lv_iconst (v := 0) hx hb dX2_standInHeat_69 (by decide) ?_
          refine lv_aload_n hx hb dX2_standInHeat_70 rfl (lv_at hl 0 rfl) ?_
          refine w_get hx hb hts iX2_standInHeat_X2 hown hK hP 0 rfl rfl 0 (by decide) fX2_standInHeat_9 rfl rfl dX2_standInHeat_71 ?_
          refine lv_iconst (v := 2) hx hb dX2_standInHeat_74 (by decide) ?_
          refine lv_isub hx hb dX2_standInHeat_75 ?_
          refine va_mmax hx hb (hml.trans hl.1.symm) hown (hts _ mlX2_standInHeat_27) (hts _ msX2_standInHeat_max) (hts _ miX2_standInHeat) (hts _ mcX2_standInHeat_max) (Nat.le_of_ble_eq_true rfl) (Nat.le_of_ble_eq_true rfl) (Nat.le_of_ble_eq_true rfl) (Nat.le_of_ble_eq_true rfl) dX2_standInHeat_76 ?_
          refine w_put (C := RX2) hx hb hts iX2_standInHeat_X2 tyX2_ok nmX2 hown hK hP hD hS 0 rfl rfl 0 (by decide) fX2_standInHeat_9 rfl rfl rfl rfl (Nat.le_of_ble_eq_true rfl) (ws' := [(h0, .inr (2, [.int (imx 0 (a - 2)), .int (imx 0 (b - 1)), .int d]))]) rfl dX2_standInHeat_79 (fun H locs hP hD hS => ?_)
          exact e0_v hx hb hr hlocks (P_eq (by have hs : softB b q ic = imx 0 (b - 1) := if_neg (fun h => absurd c_17 (Int32.not_le.mpr h.2)); rw [standA, standB, if_neg c_4, if_neg c_4, hs, if_pos c_65] <;> rfl) hP) hS dX2_standInHeat_82 (by decide) (by decide) (rfl)
      ·
        refine lv_aload_n hx hb dX2_standInHeat_20 rfl (lv_at hl 0 rfl) ?_
        refine lv_bipush (v := 100) hx hb dX2_standInHeat_21 (by decide) ?_
        refine lv_aload_n hx hb dX2_standInHeat_23 rfl (lv_at hl 0 rfl) ?_
        refine w_get hx hb hts iX2_standInHeat_X2 hown hK hP 0 rfl rfl 1 (by decide) fX2_standInHeat_15 rfl rfl dX2_standInHeat_24 ?_
        refine lv_iload_n hx hb dX2_standInHeat_27 rfl (lv_at hl 1 rfl) ?_
        refine lv_bipush (v := 20) hx hb dX2_standInHeat_28 (by decide) ?_
        refine lv_isub hx hb dX2_standInHeat_30 ?_
        refine lv_iconst (v := 4) hx hb dX2_standInHeat_31 (by decide) ?_
        refine lv_idiv hx hb dX2_standInHeat_32 (by decide) ?_
        refine lv_iadd hx hb dX2_standInHeat_33 ?_
        refine lv_iconst (v := 1) hx hb dX2_standInHeat_34 (by decide) ?_
        refine lv_iadd hx hb dX2_standInHeat_35 ?_
        refine va_mmin hx hb (hml.trans hl.1.symm) hown (hts _ mlX2_standInHeat_21) (hts _ msX2_standInHeat_min) (hts _ miX2_standInHeat) (hts _ mcX2_standInHeat_min) (Nat.le_of_ble_eq_true rfl) (Nat.le_of_ble_eq_true rfl) (Nat.le_of_ble_eq_true rfl) (Nat.le_of_ble_eq_true rfl) dX2_standInHeat_36 ?_
        refine w_put (C := RX2) hx hb hts iX2_standInHeat_X2 tyX2_ok nmX2 hown hK hP hD hS 0 rfl rfl 1 (by decide) fX2_standInHeat_15 rfl rfl rfl rfl (Nat.le_of_ble_eq_true rfl) (ws' := [(h0, .inr (2, [.int a, .int (imn 100 ((b + ((q - 20) / 4)) + 1)), .int d]))]) rfl dX2_standInHeat_39 (fun H locs hP hD hS => ?_)
        refine lv_goto (tgt := 59) hx hb dX2_standInHeat_42 (by decide) ?_
        refine lv_aload_n hx hb dX2_standInHeat_59 rfl (lv_at hl 0 rfl) ?_
        refine w_get hx hb hts iX2_standInHeat_X2 hown hK hP 0 rfl rfl 1 (by decide) fX2_standInHeat_15 rfl rfl dX2_standInHeat_60 ?_
        refine lv_bipush (v := 100) hx hb dX2_standInHeat_63 (by decide) ?_
        refine lv_icmp_ne (tgt := 82) hx hb dX2_standInHeat_65 (by decide) (fun c_65 => ?_) (fun c_65 => ?_)
        ·
          exact e0_v hx hb hr hlocks (P_eq (by have hs : softB b q ic = imn 100 (b + (q - 20) / 4 + 1) := if_pos ⟨Int32.not_le.mp c_11, Int32.not_le.mp c_17⟩; rw [standA, standB, if_neg c_4, if_neg c_4, hs, if_neg c_65]) hP) hS dX2_standInHeat_82 (by decide) (by decide) (rfl)
        ·
          refine lv_aload_n hx hb dX2_standInHeat_68 rfl (lv_at hl 0 rfl) ?_
          refine lv_iconst (v := 0) hx hb dX2_standInHeat_69 (by decide) ?_
          refine lv_aload_n hx hb dX2_standInHeat_70 rfl (lv_at hl 0 rfl) ?_
          refine w_get hx hb hts iX2_standInHeat_X2 hown hK hP 0 rfl rfl 0 (by decide) fX2_standInHeat_9 rfl rfl dX2_standInHeat_71 ?_
          refine lv_iconst (v := 2) hx hb dX2_standInHeat_74 (by decide) ?_
          refine lv_isub hx hb dX2_standInHeat_75 ?_
          refine va_mmax hx hb (hml.trans hl.1.symm) hown (hts _ mlX2_standInHeat_27) (hts _ msX2_standInHeat_max) (hts _ miX2_standInHeat) (hts _ mcX2_standInHeat_max) (Nat.le_of_ble_eq_true rfl) (Nat.le_of_ble_eq_true rfl) (Nat.le_of_ble_eq_true rfl) (Nat.le_of_ble_eq_true rfl) dX2_standInHeat_76 ?_
          refine w_put (C := RX2) hx hb hts iX2_standInHeat_X2 tyX2_ok nmX2 hown hK hP hD hS 0 rfl rfl 0 (by decide) fX2_standInHeat_9 rfl rfl rfl rfl (Nat.le_of_ble_eq_true rfl) (ws' := [(h0, .inr (2, [.int (imx 0 (a - 2)), .int (imn 100 ((b + ((q - 20) / 4)) + 1)), .int d]))]) rfl dX2_standInHeat_79 (fun H locs hP hD hS => ?_)
          exact e0_v hx hb hr hlocks (P_eq (by have hs : softB b q ic = imn 100 (b + (q - 20) / 4 + 1) := if_pos ⟨Int32.not_le.mp c_11, Int32.not_le.mp c_17⟩; rw [standA, standB, if_neg c_4, if_neg c_4, hs, if_pos c_65] <;> rfl) hP) hS dX2_standInHeat_82 (by decide) (by decide) (rfl)
  ·
    exact e0_v hx hb hr hlocks (P_eq (by rw [standA, standB, if_pos c_4, if_pos c_4]) hP) hS dX2_standInHeat_7 (by decide) (by decide) (rfl)

set_option maxHeartbeats 4000000 in
set_option maxRecDepth 100000 in
theorem mX2_take (l : Launch) (D : va_G) (cI cC cT cL : ClassId) (h0 : Nat) (a b d x y : Int32) : M0 l yX2_take wsX2_take ({ frames := 1, cells := 0, slots := 0, locals := 21 } : Room) D (TY cI cC cT cL) [.ref h0, .int x, .int y] ([(h0, .inr (2, [.int a, .int b, .int d]))]) (none) ([(h0, .inr (2, [.int (imn 60 (a + 2 * x)), .int (imx b (100 - y)), .int d]))]) 0 0 := by
  refine M0_of (cc := cX2_take) (maxL := 3) (ret := none) (by decide +kernel) rfl (Nat.le_of_ble_eq_true rfl) ?_
  intro p e s m args below meth c A0 B ls hl
  obtain ⟨hx, hb, hml, hr, hown, hts, hlocks, hK, hP, hD, hA, hST, hnm⟩ := B
  have hown : s.vm.findClass RX2 = some m.cls := hown
  have hS : va_S A0 s.heap s.heap [] := va_S.rf
  have hl : lv_has ls 3 [(0, .ref h0), (1, .int x), (2, .int y)] := hl
  refine lv_aload_n hx hb dX2_take_0 rfl (lv_at hl 0 rfl) ?_
  refine lv_bipush (v := 60) hx hb dX2_take_1 (by decide) ?_
  refine lv_aload_n hx hb dX2_take_3 rfl (lv_at hl 0 rfl) ?_
  refine w_get hx hb hts iX2_take_X2 hown hK hP 0 rfl rfl 0 (by decide) fX2_take_9 rfl rfl dX2_take_4 ?_
  refine lv_iconst (v := 2) hx hb dX2_take_7 (by decide) ?_
  refine lv_iload_n hx hb dX2_take_8 rfl (lv_at hl 1 rfl) ?_
  refine lv_imul hx hb dX2_take_9 ?_
  refine lv_iadd hx hb dX2_take_10 ?_
  refine va_mmin hx hb (hml.trans hl.1.symm) hown (hts _ mlX2_take_21) (hts _ msX2_take_min) (hts _ miX2_take) (hts _ mcX2_take_min) (Nat.le_of_ble_eq_true rfl) (Nat.le_of_ble_eq_true rfl) (Nat.le_of_ble_eq_true rfl) (Nat.le_of_ble_eq_true rfl) dX2_take_11 ?_
  refine w_put (C := RX2) hx hb hts iX2_take_X2 tyX2_ok nmX2 hown hK hP hD hS 0 rfl rfl 0 (by decide) fX2_take_9 rfl rfl rfl rfl (Nat.le_of_ble_eq_true rfl) (ws' := [(h0, .inr (2, [.int (imn 60 (a + (2 * x))), .int b, .int d]))]) rfl dX2_take_14 (fun H locs hP hD hS => ?_)
  refine lv_aload_n hx hb dX2_take_17 rfl (lv_at hl 0 rfl) ?_
  refine lv_aload_n hx hb dX2_take_18 rfl (lv_at hl 0 rfl) ?_
  refine w_get hx hb hts iX2_take_X2 hown hK hP 0 rfl rfl 1 (by decide) fX2_take_15 rfl rfl dX2_take_19 ?_
  refine lv_bipush (v := 100) hx hb dX2_take_22 (by decide) ?_
  refine lv_iload_n hx hb dX2_take_24 rfl (lv_at hl 2 rfl) ?_
  refine lv_isub hx hb dX2_take_25 ?_
  refine va_mmax hx hb (hml.trans hl.1.symm) hown (hts _ mlX2_take_27) (hts _ msX2_take_max) (hts _ miX2_take) (hts _ mcX2_take_max) (Nat.le_of_ble_eq_true rfl) (Nat.le_of_ble_eq_true rfl) (Nat.le_of_ble_eq_true rfl) (Nat.le_of_ble_eq_true rfl) dX2_take_26 ?_
  refine w_put (C := RX2) hx hb hts iX2_take_X2 tyX2_ok nmX2 hown hK hP hD hS 0 rfl rfl 1 (by decide) fX2_take_15 rfl rfl rfl rfl (Nat.le_of_ble_eq_true rfl) (ws' := [(h0, .inr (2, [.int (imn 60 (a + (2 * x))), .int (imx b (100 - y)), .int d]))]) rfl dX2_take_29 (fun H locs hP hD hS => ?_)
  exact e0_v hx hb hr hlocks hP hS dX2_take_32 (by decide) (by decide) (rfl)

set_option maxHeartbeats 4000000 in
set_option maxRecDepth 100000 in
theorem mX2_sellScoop (l : Launch) (D : va_G) (cI cC cT cL : ClassId) (h0 : Nat) (a b d : Int32) : M0 l yX2_sellScoop wsX2_sellScoop ({ frames := 0, cells := 0, slots := 0, locals := 0 } : Room) D (TY cI cC cT cL) [.ref h0] ([(h0, .inr (2, [.int a, .int b, .int d]))]) (some (.int (payF b))) ([(h0, .inr (2, [.int (a - 1), .int b, .int (d + 1)]))]) 0 0 := by
  refine M0_of (cc := cX2_sellScoop) (maxL := 1) (ret := (some .int)) (by decide +kernel) rfl (Nat.le_of_ble_eq_true rfl) ?_
  intro p e s m args below meth c A0 B ls hl
  obtain ⟨hx, hb, hml, hr, hown, hts, hlocks, hK, hP, hD, hA, hST, hnm⟩ := B
  have hown : s.vm.findClass RX2 = some m.cls := hown
  have hS : va_S A0 s.heap s.heap [] := va_S.rf
  have hl : lv_has ls 1 [(0, .ref h0)] := hl
  refine lv_aload_n hx hb dX2_sellScoop_0 rfl (lv_at hl 0 rfl) ?_
  refine lv_dup hx hb dX2_sellScoop_1 rfl ?_
  refine w_get hx hb hts iX2_sellScoop_X2 hown hK hP 0 rfl rfl 0 (by decide) fX2_sellScoop_9 rfl rfl dX2_sellScoop_2 ?_
  refine lv_iconst (v := 1) hx hb dX2_sellScoop_5 (by decide) ?_
  refine lv_isub hx hb dX2_sellScoop_6 ?_
  refine w_put (C := RX2) hx hb hts iX2_sellScoop_X2 tyX2_ok nmX2 hown hK hP hD hS 0 rfl rfl 0 (by decide) fX2_sellScoop_9 rfl rfl rfl rfl (Nat.le_of_ble_eq_true rfl) (ws' := [(h0, .inr (2, [.int (a - 1), .int b, .int d]))]) rfl dX2_sellScoop_7 (fun H locs hP hD hS => ?_)
  refine lv_aload_n hx hb dX2_sellScoop_10 rfl (lv_at hl 0 rfl) ?_
  refine lv_dup hx hb dX2_sellScoop_11 rfl ?_
  refine w_get hx hb hts iX2_sellScoop_X2 hown hK hP 0 rfl rfl 2 (by decide) fX2_sellScoop_18 rfl rfl dX2_sellScoop_12 ?_
  refine lv_iconst (v := 1) hx hb dX2_sellScoop_15 (by decide) ?_
  refine lv_iadd hx hb dX2_sellScoop_16 ?_
  refine w_put (C := RX2) hx hb hts iX2_sellScoop_X2 tyX2_ok nmX2 hown hK hP hD hS 0 rfl rfl 2 (by decide) fX2_sellScoop_18 rfl rfl rfl rfl (Nat.le_of_ble_eq_true rfl) (ws' := [(h0, .inr (2, [.int (a - 1), .int b, .int (d + 1)]))]) rfl dX2_sellScoop_17 (fun H locs hP hD hS => ?_)
  refine lv_aload_n hx hb dX2_sellScoop_20 rfl (lv_at hl 0 rfl) ?_
  refine w_get hx hb hts iX2_sellScoop_X2 hown hK hP 0 rfl rfl 1 (by decide) fX2_sellScoop_15 rfl rfl dX2_sellScoop_21 ?_
  refine lv_bipush (v := 50) hx hb dX2_sellScoop_24 (by decide) ?_
  refine lv_icmp_lt (tgt := 33) hx hb dX2_sellScoop_26 (by decide) (fun c_26 => ?_) (fun c_26 => ?_)
  ·
    refine lv_iconst (v := 3) hx hb dX2_sellScoop_33 (by decide) ?_
    exact e0_i hx hb hr hlocks hP hS dX2_sellScoop_34 (by decide) (by decide) (by rw [payF, if_pos c_26])
  ·
    refine lv_iconst (v := 2) hx hb dX2_sellScoop_29 (by decide) ?_
    refine lv_goto (tgt := 34) hx hb dX2_sellScoop_30 (by decide) ?_
    exact e0_i hx hb hr hlocks hP hS dX2_sellScoop_34 (by decide) (by decide) (by rw [payF, if_neg c_26])

set_option maxHeartbeats 4000000 in
set_option maxRecDepth 100000 in
theorem mX2_forgetSoftnessIfEmpty (l : Launch) (D : va_G) (cI cC cT cL : ClassId) (h0 : Nat) (a b d : Int32) : M0 l yX2_forgetSoftnessIfEmpty wsX2_forgetSoftnessIfEmpty ({ frames := 0, cells := 0, slots := 0, locals := 0 } : Room) D (TY cI cC cT cL) [.ref h0] ([(h0, .inr (2, [.int a, .int b, .int d]))]) (none) ([(h0, .inr (2, [.int a, .int (forgB a b), .int d]))]) 0 0 := by
  refine M0_of (cc := cX2_forgetSoftnessIfEmpty) (maxL := 1) (ret := none) (by decide +kernel) rfl (Nat.le_of_ble_eq_true rfl) ?_
  intro p e s m args below meth c A0 B ls hl
  obtain ⟨hx, hb, hml, hr, hown, hts, hlocks, hK, hP, hD, hA, hST, hnm⟩ := B
  have hown : s.vm.findClass RX2 = some m.cls := hown
  have hS : va_S A0 s.heap s.heap [] := va_S.rf
  have hl : lv_has ls 1 [(0, .ref h0)] := hl
  refine lv_aload_n hx hb dX2_forgetSoftnessIfEmpty_0 rfl (lv_at hl 0 rfl) ?_
  refine w_get hx hb hts iX2_forgetSoftnessIfEmpty_X2 hown hK hP 0 rfl rfl 0 (by decide) fX2_forgetSoftnessIfEmpty_9 rfl rfl dX2_forgetSoftnessIfEmpty_1 ?_
  refine lv_if_ne (tgt := 12) hx hb dX2_forgetSoftnessIfEmpty_4 (by decide) (fun c_4 => ?_) (fun c_4 => ?_)
  ·
    exact e0_v hx hb hr hlocks (P_eq (by rw [forgB, if_neg c_4]) hP) hS dX2_forgetSoftnessIfEmpty_12 (by decide) (by decide) (rfl)
  ·
    refine lv_aload_n hx hb dX2_forgetSoftnessIfEmpty_7 rfl (lv_at hl 0 rfl) ?_
    refine lv_iconst (v := 0) hx hb dX2_forgetSoftnessIfEmpty_8 (by decide) ?_
    refine w_put (C := RX2) hx hb hts iX2_forgetSoftnessIfEmpty_X2 tyX2_ok nmX2 hown hK hP hD hS 0 rfl rfl 1 (by decide) fX2_forgetSoftnessIfEmpty_15 rfl rfl rfl rfl (Nat.le_of_ble_eq_true rfl) (ws' := [(h0, .inr (2, [.int a, .int 0, .int d]))]) rfl dX2_forgetSoftnessIfEmpty_9 (fun H locs hP hD hS => ?_)
    exact e0_v hx hb hr hlocks (P_eq (by rw [forgB, if_pos c_4]) hP) hS dX2_forgetSoftnessIfEmpty_12 (by decide) (by decide) (rfl)

set_option maxHeartbeats 4000000 in
set_option maxRecDepth 100000 in
theorem mX1_copyFrom (l : Launch) (D : va_G) (cI cC cT cL : ClassId) (h0 h1 : Nat) (a b d a1 b1 d1 : Int32) : M0 l yX1_copyFrom wsX1_copyFrom ({ frames := 0, cells := 0, slots := 0, locals := 0 } : Room) D (TY cI cC cT cL) [.ref h0, .ref h1] ([(h0, .inr (1, [.int a, .int b, .int d])), (h1, .inr (1, [.int a1, .int b1, .int d1]))]) (none) ([(h0, .inr (1, [.int a1, .int b1, .int d1])), (h1, .inr (1, [.int a1, .int b1, .int d1]))]) 0 0 := by
  refine M0_of (cc := cX1_copyFrom) (maxL := 2) (ret := none) (by decide +kernel) rfl (Nat.le_of_ble_eq_true rfl) ?_
  intro p e s m args below meth c A0 B ls hl
  obtain ⟨hx, hb, hml, hr, hown, hts, hlocks, hK, hP, hD, hA, hST, hnm⟩ := B
  have hown : s.vm.findClass RX1 = some m.cls := hown
  have hS : va_S A0 s.heap s.heap [] := va_S.rf
  have hl : lv_has ls 2 [(0, .ref h0), (1, .ref h1)] := hl
  refine lv_aload_n hx hb dX1_copyFrom_0 rfl (lv_at hl 0 rfl) ?_
  refine lv_aload_n hx hb dX1_copyFrom_1 rfl (lv_at hl 1 rfl) ?_
  refine w_get hx hb hts iX1_copyFrom_X1 hown hK hP 1 rfl rfl 0 (by decide) fX1_copyFrom_7 rfl rfl dX1_copyFrom_2 ?_
  refine w_put (C := RX1) hx hb hts iX1_copyFrom_X1 tyX1_ok nmX1 hown hK hP hD hS 0 rfl rfl 0 (by decide) fX1_copyFrom_7 rfl rfl rfl rfl (Nat.le_of_ble_eq_true rfl) (ws' := [(h0, .inr (1, [.int a1, .int b, .int d])), (h1, .inr (1, [.int a1, .int b1, .int d1]))]) rfl dX1_copyFrom_5 (fun H locs hP hD hS => ?_)
  refine lv_aload_n hx hb dX1_copyFrom_8 rfl (lv_at hl 0 rfl) ?_
  refine lv_aload_n hx hb dX1_copyFrom_9 rfl (lv_at hl 1 rfl) ?_
  refine w_get hx hb hts iX1_copyFrom_X1 hown hK hP 1 rfl rfl 1 (by decide) fX1_copyFrom_13 rfl rfl dX1_copyFrom_10 ?_
  refine w_put (C := RX1) hx hb hts iX1_copyFrom_X1 tyX1_ok nmX1 hown hK hP hD hS 0 rfl rfl 1 (by decide) fX1_copyFrom_13 rfl rfl rfl rfl (Nat.le_of_ble_eq_true rfl) (ws' := [(h0, .inr (1, [.int a1, .int b1, .int d])), (h1, .inr (1, [.int a1, .int b1, .int d1]))]) rfl dX1_copyFrom_13 (fun H locs hP hD hS => ?_)
  refine lv_aload_n hx hb dX1_copyFrom_16 rfl (lv_at hl 0 rfl) ?_
  refine lv_aload_n hx hb dX1_copyFrom_17 rfl (lv_at hl 1 rfl) ?_
  refine w_get hx hb hts iX1_copyFrom_X1 hown hK hP 1 rfl rfl 2 (by decide) fX1_copyFrom_16 rfl rfl dX1_copyFrom_18 ?_
  refine w_put (C := RX1) hx hb hts iX1_copyFrom_X1 tyX1_ok nmX1 hown hK hP hD hS 0 rfl rfl 2 (by decide) fX1_copyFrom_16 rfl rfl rfl rfl (Nat.le_of_ble_eq_true rfl) (ws' := [(h0, .inr (1, [.int a1, .int b1, .int d1])), (h1, .inr (1, [.int a1, .int b1, .int d1]))]) rfl dX1_copyFrom_21 (fun H locs hP hD hS => ?_)
  exact e0_v hx hb hr hlocks hP hS dX1_copyFrom_24 (by decide) (by decide) (rfl)

set_option maxHeartbeats 4000000 in
set_option maxRecDepth 100000 in
theorem mX2_copyFrom (l : Launch) (D : va_G) (cI cC cT cL : ClassId) (h0 h1 : Nat) (a b d a1 b1 d1 : Int32) : M0 l yX2_copyFrom wsX2_copyFrom ({ frames := 0, cells := 0, slots := 0, locals := 0 } : Room) D (TY cI cC cT cL) [.ref h0, .ref h1] ([(h0, .inr (2, [.int a, .int b, .int d])), (h1, .inr (2, [.int a1, .int b1, .int d1]))]) (none) ([(h0, .inr (2, [.int a1, .int b1, .int d1])), (h1, .inr (2, [.int a1, .int b1, .int d1]))]) 0 0 := by
  refine M0_of (cc := cX2_copyFrom) (maxL := 2) (ret := none) (by decide +kernel) rfl (Nat.le_of_ble_eq_true rfl) ?_
  intro p e s m args below meth c A0 B ls hl
  obtain ⟨hx, hb, hml, hr, hown, hts, hlocks, hK, hP, hD, hA, hST, hnm⟩ := B
  have hown : s.vm.findClass RX2 = some m.cls := hown
  have hS : va_S A0 s.heap s.heap [] := va_S.rf
  have hl : lv_has ls 2 [(0, .ref h0), (1, .ref h1)] := hl
  refine lv_aload_n hx hb dX2_copyFrom_0 rfl (lv_at hl 0 rfl) ?_
  refine lv_aload_n hx hb dX2_copyFrom_1 rfl (lv_at hl 1 rfl) ?_
  refine w_get hx hb hts iX2_copyFrom_X2 hown hK hP 1 rfl rfl 0 (by decide) fX2_copyFrom_9 rfl rfl dX2_copyFrom_2 ?_
  refine w_put (C := RX2) hx hb hts iX2_copyFrom_X2 tyX2_ok nmX2 hown hK hP hD hS 0 rfl rfl 0 (by decide) fX2_copyFrom_9 rfl rfl rfl rfl (Nat.le_of_ble_eq_true rfl) (ws' := [(h0, .inr (2, [.int a1, .int b, .int d])), (h1, .inr (2, [.int a1, .int b1, .int d1]))]) rfl dX2_copyFrom_5 (fun H locs hP hD hS => ?_)
  refine lv_aload_n hx hb dX2_copyFrom_8 rfl (lv_at hl 0 rfl) ?_
  refine lv_aload_n hx hb dX2_copyFrom_9 rfl (lv_at hl 1 rfl) ?_
  refine w_get hx hb hts iX2_copyFrom_X2 hown hK hP 1 rfl rfl 1 (by decide) fX2_copyFrom_15 rfl rfl dX2_copyFrom_10 ?_
  refine w_put (C := RX2) hx hb hts iX2_copyFrom_X2 tyX2_ok nmX2 hown hK hP hD hS 0 rfl rfl 1 (by decide) fX2_copyFrom_15 rfl rfl rfl rfl (Nat.le_of_ble_eq_true rfl) (ws' := [(h0, .inr (2, [.int a1, .int b1, .int d])), (h1, .inr (2, [.int a1, .int b1, .int d1]))]) rfl dX2_copyFrom_13 (fun H locs hP hD hS => ?_)
  refine lv_aload_n hx hb dX2_copyFrom_16 rfl (lv_at hl 0 rfl) ?_
  refine lv_aload_n hx hb dX2_copyFrom_17 rfl (lv_at hl 1 rfl) ?_
  refine w_get hx hb hts iX2_copyFrom_X2 hown hK hP 1 rfl rfl 2 (by decide) fX2_copyFrom_18 rfl rfl dX2_copyFrom_18 ?_
  refine w_put (C := RX2) hx hb hts iX2_copyFrom_X2 tyX2_ok nmX2 hown hK hP hD hS 0 rfl rfl 2 (by decide) fX2_copyFrom_18 rfl rfl rfl rfl (Nat.le_of_ble_eq_true rfl) (ws' := [(h0, .inr (2, [.int a1, .int b1, .int d1])), (h1, .inr (2, [.int a1, .int b1, .int d1]))]) rfl dX2_copyFrom_21 (fun H locs hP hD hS => ?_)
  exact e0_v hx hb hr hlocks hP hS dX2_copyFrom_24 (by decide) (by decide) (rfl)

set_option maxHeartbeats 4000000 in
set_option maxRecDepth 100000 in
theorem mX1_init (l : Launch) (D : va_G) (cI cC cT cL : ClassId) (h0 : Nat) (a b d : Int32) : M0 l yX1_init wsX1_init ({ frames := 1, cells := 0, slots := 0, locals := 20 } : Room) D (TY cI cC cT cL) [.ref h0] ([(h0, .inr (1, [.int a, .int b, .int d]))]) (none) ([(h0, .inr (1, [.int a, .int b, .int d]))]) 0 0 := by
  refine M0_of (cc := cX1_init) (maxL := 1) (ret := none) (by decide +kernel) rfl (Nat.le_of_ble_eq_true rfl) ?_
  intro p e s m args below meth c A0 B ls hl
  obtain ⟨hx, hb, hml, hr, hown, hts, hlocks, hK, hP, hD, hA, hST, hnm⟩ := B
  have hown : s.vm.findClass RX1 = some m.cls := hown
  have hS : va_S A0 s.heap s.heap [] := va_S.rf
  have hl : lv_has ls 1 [(0, .ref h0)] := hl
  refine lv_aload_n hx hb dX1_init_0 rfl (lv_at hl 0 rfl) ?_
  refine W.objInit hx hb hown (hts _ oiX1_init) (hts _ ojX1_init) (hts _ okX1_init) rfl (by rw [hml]; exact hl.1) rfl dX1_init_1 (Nat.le_of_ble_eq_true rfl) (Nat.le_of_ble_eq_true rfl) ?_
  refine W.eq (g2 := F0 m 4 ls []) rfl ?_
  exact e0_v hx hb hr hlocks hP hS dX1_init_4 (by decide) (by decide) (rfl)

set_option maxHeartbeats 4000000 in
set_option maxRecDepth 100000 in
theorem mX2_init (l : Launch) (D : va_G) (cI cC cT cL : ClassId) (h0 : Nat) (a b d : Int32) : M0 l yX2_init wsX2_init ({ frames := 1, cells := 0, slots := 0, locals := 20 } : Room) D (TY cI cC cT cL) [.ref h0] ([(h0, .inr (2, [.int a, .int b, .int d]))]) (none) ([(h0, .inr (2, [.int a, .int b, .int d]))]) 0 0 := by
  refine M0_of (cc := cX2_init) (maxL := 1) (ret := none) (by decide +kernel) rfl (Nat.le_of_ble_eq_true rfl) ?_
  intro p e s m args below meth c A0 B ls hl
  obtain ⟨hx, hb, hml, hr, hown, hts, hlocks, hK, hP, hD, hA, hST, hnm⟩ := B
  have hown : s.vm.findClass RX2 = some m.cls := hown
  have hS : va_S A0 s.heap s.heap [] := va_S.rf
  have hl : lv_has ls 1 [(0, .ref h0)] := hl
  refine lv_aload_n hx hb dX2_init_0 rfl (lv_at hl 0 rfl) ?_
  refine W.objInit hx hb hown (hts _ oiX2_init) (hts _ ojX2_init) (hts _ okX2_init) rfl (by rw [hml]; exact hl.1) rfl dX2_init_1 (Nat.le_of_ble_eq_true rfl) (Nat.le_of_ble_eq_true rfl) ?_
  refine W.eq (g2 := F0 m 4 ls []) rfl ?_
  exact e0_v hx hb hr hlocks hP hS dX2_init_4 (by decide) (by decide) (rfl)
end
section
theorem fX0_heatAt_18 : Cond.fieldLink RX0 18 "ColdCreamery$Cellar" "heats" "[I" ∈ wsX0_heatAt := by decide +kernel
theorem fX0_number_13 : Cond.fieldLink RX0 13 "ColdCreamery$Cellar" "stock" "[I" ∈ wsX0_number := by decide +kernel
theorem fX0_number_41 : Cond.fieldLink RX0 41 "ColdCreamery$Cellar" "hour" "I" ∈ wsX0_number := by decide +kernel
theorem fX0_number_49 : Cond.fieldLink RX0 49 "ColdCreamery$Cellar" "coins" "I" ∈ wsX0_number := by decide +kernel
theorem fX0_number_59 : Cond.fieldLink RX0 59 "ColdCreamery$Cellar" "sentAway" "I" ∈ wsX0_number := by decide +kernel
theorem fX0_scoopsInTubs_29 : Cond.fieldLink RX0 29 "ColdCreamery$Cellar" "tubs" "[LColdCreamery$Tub;" ∈ wsX0_scoopsInTubs := by decide +kernel
theorem fX0_scoopsInTubs_68 : Cond.fieldLink RX0 68 "ColdCreamery$Cellar" "tubCount" "I" ∈ wsX0_scoopsInTubs := by decide +kernel
theorem fX0_sellingTub_29 : Cond.fieldLink RX0 29 "ColdCreamery$Cellar" "tubs" "[LColdCreamery$Tub;" ∈ wsX0_sellingTub := by decide +kernel
theorem fX0_sellingTub_68 : Cond.fieldLink RX0 68 "ColdCreamery$Cellar" "tubCount" "I" ∈ wsX0_sellingTub := by decide +kernel
theorem fX0_soldScoops_29 : Cond.fieldLink RX0 29 "ColdCreamery$Cellar" "tubs" "[LColdCreamery$Tub;" ∈ wsX0_soldScoops := by decide +kernel
theorem fX0_soldScoops_68 : Cond.fieldLink RX0 68 "ColdCreamery$Cellar" "tubCount" "I" ∈ wsX0_soldScoops := by decide +kernel
theorem iX0_heatAt_X0 : ∀ w ∈ u_ws RX0 TX0 9, w ∈ wsX0_heatAt := by decide +kernel
theorem iX0_number_X0 : ∀ w ∈ u_ws RX0 TX0 9, w ∈ wsX0_number := by decide +kernel
theorem iX0_scoopsInTubs_X0 : ∀ w ∈ u_ws RX0 TX0 9, w ∈ wsX0_scoopsInTubs := by decide +kernel
theorem iX0_scoopsInTubs_X2 : ∀ w ∈ u_ws RX2 TX2 3, w ∈ wsX0_scoopsInTubs := by decide +kernel
theorem iX0_sellingTub_X0 : ∀ w ∈ u_ws RX0 TX0 9, w ∈ wsX0_sellingTub := by decide +kernel
theorem iX0_sellingTub_X2 : ∀ w ∈ u_ws RX2 TX2 3, w ∈ wsX0_sellingTub := by decide +kernel
theorem iX0_soldScoops_X0 : ∀ w ∈ u_ws RX0 TX0 9, w ∈ wsX0_soldScoops := by decide +kernel
theorem iX0_soldScoops_X2 : ∀ w ∈ u_ws RX2 TX2 3, w ∈ wsX0_soldScoops := by decide +kernel
theorem pJ9_floorMod_7cf53 : yJ9_floorMod_7cf53.cls ≠ "java/lang/invoke/MethodHandle" ∧ yJ9_floorMod_7cf53.cls ≠ "java/lang/invoke/VarHandle" ∧ (parseMethodDescriptor yJ9_floorMod_7cf53.desc).map (fun d => d.parameters.length) = some 2 := by decide +kernel
theorem pX0_heatAt : yX0_heatAt.cls = RX0 ∧ yX0_heatAt.cls ≠ "java/lang/invoke/MethodHandle" ∧ yX0_heatAt.cls ≠ "java/lang/invoke/VarHandle" ∧ (parseMethodDescriptor yX0_heatAt.desc).map (fun d => d.parameters.length) = some 1 := by decide +kernel
theorem pX0_scoopsInTubs : yX0_scoopsInTubs.cls = RX0 ∧ yX0_scoopsInTubs.cls ≠ "java/lang/invoke/MethodHandle" ∧ yX0_scoopsInTubs.cls ≠ "java/lang/invoke/VarHandle" ∧ (parseMethodDescriptor yX0_scoopsInTubs.desc).map (fun d => d.parameters.length) = some 0 := by decide +kernel
theorem pX0_soldScoops : yX0_soldScoops.cls = RX0 ∧ yX0_soldScoops.cls ≠ "java/lang/invoke/MethodHandle" ∧ yX0_soldScoops.cls ≠ "java/lang/invoke/VarHandle" ∧ (parseMethodDescriptor yX0_soldScoops.desc).map (fun d => d.parameters.length) = some 0 := by decide +kernel
end
section
set_option maxHeartbeats 4000000 in
set_option maxRecDepth 100000 in
theorem mX0_heatAt (l : Launch) (D : va_G) (cI cC cT cL : ClassId) (A : Nat → Nat) (nc nt : Nat) (f g : Nat → Int32) (x : Int32) (tm : Nat) (htm : tm < 2 ^ 31) (hxt : x = nI tm) : M0 l yX0_heatAt wsX0_heatAt ({ frames := 1, cells := 0, slots := 0, locals := 22 } : Room) D (TY cI cC cT cL) [.ref (A 0), .int x] (CW cI cC cT A nc nt f g) (some (.int (g (tm / 24 % 7)))) (CW cI cC cT A nc nt f g) 0 0 := by
  refine M0_of (cc := cX0_heatAt) (maxL := 2) (ret := (some .int)) (by decide +kernel) rfl (Nat.le_of_ble_eq_true rfl) ?_
  intro p e s m args below meth c A0 B ls hl
  obtain ⟨hx, hb, hml, hr, hown, hts, hlocks, hK, hP, hD, hA, hST, hnm⟩ := B
  have hown : s.vm.findClass RX0 = some m.cls := hown
  have hS : va_S A0 s.heap s.heap [] := va_S.rf
  have hl : lv_has ls 2 [(0, .ref (A 0)), (1, .int x)] := hl
  refine lv_aload_n hx hb dX0_heatAt_0 rfl (lv_at hl 0 rfl) ?_
  refine w_get hx hb hts iX0_heatAt_X0 hown hK hP 0 rfl rfl 1 (by decide) fX0_heatAt_18 rfl rfl dX0_heatAt_1 ?_
  refine lv_iload_n hx hb dX0_heatAt_4 rfl (lv_at hl 1 rfl) ?_
  refine lv_bipush (v := 24) hx hb dX0_heatAt_5 (by decide) ?_
  refine lv_idiv hx hb dX0_heatAt_7 (by decide) ?_
  refine lv_bipush (v := 7) hx hb dX0_heatAt_8 (by decide) ?_
  refine c0_S (As := [.int (x / 24), .int 7]) (rest := [.ref (A 2)]) ⟨hx, hb, hml, hown, hts⟩ (mJ9_floorMod_7cf53 l D cI cC cT cL (x / 24) 7 (by decide)) (va_cwS 2 hts gX0_heatAt_J9_floorMod_7cf53 rfl rfl rfl pJ9_floorMod_7cf53 ⟨Nat.le_of_ble_eq_true rfl, Nat.le_of_ble_eq_true rfl⟩) hK hP hD hS hA hST (Jn_nil _) rfl hl.1 rfl (Nat.le_of_ble_eq_true rfl) dX0_heatAt_10 ⟨Nat.le_of_ble_eq_true rfl, Nat.le_of_ble_eq_true rfl⟩ rfl (fun H locs hP hD hS => ?_)
  refine w_ild hx hb hK hP 2 0 rfl rfl (tm / 24 % 7) (by rw [hxt]; exact fmod_nI htm) (Nat.mod_lt _ (by decide)) (by decide) (v := g (tm / 24 % 7)) rfl dX0_heatAt_13 ?_
  exact e0_i hx hb hr hlocks hP hS dX0_heatAt_14 (by decide) (by decide) (rfl)

set_option maxHeartbeats 4000000 in
set_option maxRecDepth 100000 in
theorem mX0_scoopsInTubs (l : Launch) (D : va_G) (cI cC cT cL : ClassId) (A : Nat → Nat) (nc nt : Nat) (f g : Nat → Int32) (hnt : nt ≤ 6) : M0 l yX0_scoopsInTubs wsX0_scoopsInTubs ({ frames := 0, cells := 0, slots := 0, locals := 0 } : Room) D (TY cI cC cT cL) [.ref (A 0)] (CW cI cC cT A nc nt f g) (some (.int (sumS f nt))) (CW cI cC cT A nc nt f g) 0 0 := by
  refine M0_of (cc := cX0_scoopsInTubs) (maxL := 3) (ret := (some .int)) (by decide +kernel) rfl (Nat.le_of_ble_eq_true rfl) ?_
  intro p e s m args below meth c A0 B ls hl
  obtain ⟨hx, hb, hml, hr, hown, hts, hlocks, hK, hP, hD, hA, hST, hnm⟩ := B
  have hown : s.vm.findClass RX0 = some m.cls := hown
  have hS : va_S A0 s.heap s.heap [] := va_S.rf
  have hl : lv_has ls 3 [(0, .ref (A 0))] := hl
  refine lv_iconst (v := 0) hx hb dX0_scoopsInTubs_0 (by decide) ?_
  refine lv_istore_n (lv' := [(1, .int 0), (0, .ref (A 0))]) hx hb dX0_scoopsInTubs_1 rfl hl (by decide) rfl (fun ls hl => ?_)
  refine lv_iconst (v := 0) hx hb dX0_scoopsInTubs_2 (by decide) ?_
  refine lv_istore_n (lv' := [(2, .int 0), (1, .int 0), (0, .ref (A 0))]) hx hb dX0_scoopsInTubs_3 rfl hl (by decide) rfl (fun ls hl => ?_)
  have lp0 : ∀ (n j : Nat), j + n = nt → ∀ (H : Heap) (locs : List Loc), va_P D vwCl (CW cI cC cT A nc nt f g) H → va_D A0 (CW cI cC cT A nc nt f g) → va_S A0 s.heap H locs → ∀ ls, lv_has ls 3 [(2, .int (nI j)), (1, .int (sumS f j)), (0, .ref (A 0))] → W p l e ({ frames := 0, cells := 0, slots := 0, locals := 0 } : Room) s m args below meth c H locs 0 0 (Q0 below D (some (.int (sumS f nt))) (CW cI cC cT A nc nt f g) A0 args s 0 0) (F0 m 4 ls []) := by
    intro n
    induction n with
    | zero =>
      intro j hj   H locs hP hD hS ls hl
      have hje : nt = j := by omega
      subst hje
      refine lv_iload_n hx hb dX0_scoopsInTubs_4 rfl (lv_at hl 0 rfl) ?_
      refine lv_aload_n hx hb dX0_scoopsInTubs_5 rfl (lv_at hl 2 rfl) ?_
      refine w_get hx hb hts iX0_scoopsInTubs_X0 hown hK hP 0 rfl rfl 5 (by decide) fX0_scoopsInTubs_68 rfl rfl dX0_scoopsInTubs_6 ?_
      refine lv_icmp_ge (tgt := 30) hx hb dX0_scoopsInTubs_9 (by decide) (fun c_9 => ?_) (fun c_9 => ?_)
      rotate_left
      · exact absurd (Int32.le_refl _) c_9
      refine lv_iload_n hx hb dX0_scoopsInTubs_30 rfl (lv_at hl 1 rfl) ?_
      exact e0_i hx hb hr hlocks hP hS dX0_scoopsInTubs_31 (by decide) (by decide) (rfl)
    | succ n ih =>
      intro j hj   H locs hP hD hS ls hl
      refine lv_iload_n hx hb dX0_scoopsInTubs_4 rfl (lv_at hl 0 rfl) ?_
      refine lv_aload_n hx hb dX0_scoopsInTubs_5 rfl (lv_at hl 2 rfl) ?_
      refine w_get hx hb hts iX0_scoopsInTubs_X0 hown hK hP 0 rfl rfl 5 (by decide) fX0_scoopsInTubs_68 rfl rfl dX0_scoopsInTubs_6 ?_
      refine lv_icmp_ge (tgt := 30) hx hb dX0_scoopsInTubs_9 (by decide) (fun c_9 => ?_) (fun c_9 => ?_)
      · exact absurd c_9 (nI_ge (by omega) (by omega))
      refine lv_iload_n hx hb dX0_scoopsInTubs_12 rfl (lv_at hl 1 rfl) ?_
      refine lv_aload_n hx hb dX0_scoopsInTubs_13 rfl (lv_at hl 2 rfl) ?_
      refine w_get hx hb hts iX0_scoopsInTubs_X0 hown hK hP 0 rfl rfl 3 (by decide) fX0_scoopsInTubs_29 rfl rfl dX0_scoopsInTubs_14 ?_
      refine lv_iload_n hx hb dX0_scoopsInTubs_17 rfl (lv_at hl 0 rfl) ?_
      refine w_qld hx hb hK hP 4 2 rfl rfl j rfl (by omega) (by decide) (v := A (9 + j)) rfl dX0_scoopsInTubs_18 ?_
      refine w_getN hx hb hts iX0_scoopsInTubs_X2 hown hK hST hP (9 + j) (cw_gtub j (by omega)) rfl 0 (by decide) 6 rfl rfl rfl dX0_scoopsInTubs_19 ?_
      refine lv_iadd hx hb dX0_scoopsInTubs_22 ?_
      refine lv_istore_n (lv' := [(1, .int ((sumS f j) + (f (19 + 3 * j)))), (2, .int (nI j)), (0, .ref (A 0))]) hx hb dX0_scoopsInTubs_23 rfl hl (by decide) rfl (fun ls hl => ?_)
      refine lv_iinc (v := nI (j + 1)) (lv' := [(2, .int (nI (j + 1))), (1, .int ((sumS f j) + (f (19 + 3 * j)))), (0, .ref (A 0))]) hx hb dX0_scoopsInTubs_24 hl (k := 1) rfl (nI_succ _).symm (by decide) rfl (fun ls hl => ?_)
      refine lv_goto (tgt := 4) hx hb dX0_scoopsInTubs_27 (by decide) ?_
      exact ih (j + 1) (by omega) _ _ hP hD hS _ (lv_sub hl [0, 1, 2] rfl)
  exact lp0 nt 0 (by omega) _ _ hP hD hS _ (lv_sub hl [0, 1, 2] rfl)

set_option maxHeartbeats 4000000 in
set_option maxRecDepth 100000 in
theorem mX0_soldScoops (l : Launch) (D : va_G) (cI cC cT cL : ClassId) (A : Nat → Nat) (nc nt : Nat) (f g : Nat → Int32) (hnt : nt ≤ 6) : M0 l yX0_soldScoops wsX0_soldScoops ({ frames := 0, cells := 0, slots := 0, locals := 0 } : Room) D (TY cI cC cT cL) [.ref (A 0)] (CW cI cC cT A nc nt f g) (some (.int (sumD f nt))) (CW cI cC cT A nc nt f g) 0 0 := by
  refine M0_of (cc := cX0_soldScoops) (maxL := 3) (ret := (some .int)) (by decide +kernel) rfl (Nat.le_of_ble_eq_true rfl) ?_
  intro p e s m args below meth c A0 B ls hl
  obtain ⟨hx, hb, hml, hr, hown, hts, hlocks, hK, hP, hD, hA, hST, hnm⟩ := B
  have hown : s.vm.findClass RX0 = some m.cls := hown
  have hS : va_S A0 s.heap s.heap [] := va_S.rf
  have hl : lv_has ls 3 [(0, .ref (A 0))] := hl
  refine lv_iconst (v := 0) hx hb dX0_soldScoops_0 (by decide) ?_
  refine lv_istore_n (lv' := [(1, .int 0), (0, .ref (A 0))]) hx hb dX0_soldScoops_1 rfl hl (by decide) rfl (fun ls hl => ?_)
  refine lv_iconst (v := 0) hx hb dX0_soldScoops_2 (by decide) ?_
  refine lv_istore_n (lv' := [(2, .int 0), (1, .int 0), (0, .ref (A 0))]) hx hb dX0_soldScoops_3 rfl hl (by decide) rfl (fun ls hl => ?_)
  have lp0 : ∀ (n j : Nat), j + n = nt → ∀ (H : Heap) (locs : List Loc), va_P D vwCl (CW cI cC cT A nc nt f g) H → va_D A0 (CW cI cC cT A nc nt f g) → va_S A0 s.heap H locs → ∀ ls, lv_has ls 3 [(2, .int (nI j)), (1, .int (sumD f j)), (0, .ref (A 0))] → W p l e ({ frames := 0, cells := 0, slots := 0, locals := 0 } : Room) s m args below meth c H locs 0 0 (Q0 below D (some (.int (sumD f nt))) (CW cI cC cT A nc nt f g) A0 args s 0 0) (F0 m 4 ls []) := by
    intro n
    induction n with
    | zero =>
      intro j hj   H locs hP hD hS ls hl
      have hje : nt = j := by omega
      subst hje
      refine lv_iload_n hx hb dX0_soldScoops_4 rfl (lv_at hl 0 rfl) ?_
      refine lv_aload_n hx hb dX0_soldScoops_5 rfl (lv_at hl 2 rfl) ?_
      refine w_get hx hb hts iX0_soldScoops_X0 hown hK hP 0 rfl rfl 5 (by decide) fX0_soldScoops_68 rfl rfl dX0_soldScoops_6 ?_
      refine lv_icmp_ge (tgt := 30) hx hb dX0_soldScoops_9 (by decide) (fun c_9 => ?_) (fun c_9 => ?_)
      rotate_left
      · exact absurd (Int32.le_refl _) c_9
      refine lv_iload_n hx hb dX0_soldScoops_30 rfl (lv_at hl 1 rfl) ?_
      exact e0_i hx hb hr hlocks hP hS dX0_soldScoops_31 (by decide) (by decide) (rfl)
    | succ n ih =>
      intro j hj   H locs hP hD hS ls hl
      refine lv_iload_n hx hb dX0_soldScoops_4 rfl (lv_at hl 0 rfl) ?_
      refine lv_aload_n hx hb dX0_soldScoops_5 rfl (lv_at hl 2 rfl) ?_
      refine w_get hx hb hts iX0_soldScoops_X0 hown hK hP 0 rfl rfl 5 (by decide) fX0_soldScoops_68 rfl rfl dX0_soldScoops_6 ?_
      refine lv_icmp_ge (tgt := 30) hx hb dX0_soldScoops_9 (by decide) (fun c_9 => ?_) (fun c_9 => ?_)
      · exact absurd c_9 (nI_ge (by omega) (by omega))
      refine lv_iload_n hx hb dX0_soldScoops_12 rfl (lv_at hl 1 rfl) ?_
      refine lv_aload_n hx hb dX0_soldScoops_13 rfl (lv_at hl 2 rfl) ?_
      refine w_get hx hb hts iX0_soldScoops_X0 hown hK hP 0 rfl rfl 3 (by decide) fX0_soldScoops_29 rfl rfl dX0_soldScoops_14 ?_
      refine lv_iload_n hx hb dX0_soldScoops_17 rfl (lv_at hl 0 rfl) ?_
      refine w_qld hx hb hK hP 4 2 rfl rfl j rfl (by omega) (by decide) (v := A (9 + j)) rfl dX0_soldScoops_18 ?_
      refine w_getN hx hb hts iX0_soldScoops_X2 hown hK hST hP (9 + j) (cw_gtub j (by omega)) rfl 2 (by decide) 9 rfl rfl rfl dX0_soldScoops_19 ?_
      refine lv_iadd hx hb dX0_soldScoops_22 ?_
      refine lv_istore_n (lv' := [(1, .int ((sumD f j) + (f (21 + 3 * j)))), (2, .int (nI j)), (0, .ref (A 0))]) hx hb dX0_soldScoops_23 rfl hl (by decide) rfl (fun ls hl => ?_)
      refine lv_iinc (v := nI (j + 1)) (lv' := [(2, .int (nI (j + 1))), (1, .int ((sumD f j) + (f (21 + 3 * j)))), (0, .ref (A 0))]) hx hb dX0_soldScoops_24 hl (k := 1) rfl (nI_succ _).symm (by decide) rfl (fun ls hl => ?_)
      refine lv_goto (tgt := 4) hx hb dX0_soldScoops_27 (by decide) ?_
      exact ih (j + 1) (by omega) _ _ hP hD hS _ (lv_sub hl [0, 1, 2] rfl)
  exact lp0 nt 0 (by omega) _ _ hP hD hS _ (lv_sub hl [0, 1, 2] rfl)

set_option maxHeartbeats 4000000 in
set_option maxRecDepth 100000 in
theorem mX0_sellingTub (l : Launch) (D : va_G) (cI cC cT cL : ClassId) (A : Nat → Nat) (nc nt : Nat) (f g : Nat → Int32) (hnt : nt ≤ 6) (hsoft : ∀ t, t < nt → f (20 + 3 * t) ≤ 100) : M0 l yX0_sellingTub wsX0_sellingTub ({ frames := 0, cells := 0, slots := 0, locals := 0 } : Room) D (TY cI cC cT cL) [.ref (A 0)] (CW cI cC cT A nc nt f g) (some (.int (nxt f nt))) (CW cI cC cT A nc nt f g) 0 0 := by
  refine M0_of (cc := cX0_sellingTub) (maxL := 4) (ret := (some .int)) (by decide +kernel) rfl (Nat.le_of_ble_eq_true rfl) ?_
  intro p e s m args below meth c A0 B ls hl
  obtain ⟨hx, hb, hml, hr, hown, hts, hlocks, hK, hP, hD, hA, hST, hnm⟩ := B
  have hown : s.vm.findClass RX0 = some m.cls := hown
  have hS : va_S A0 s.heap s.heap [] := va_S.rf
  have hl : lv_has ls 4 [(0, .ref (A 0))] := hl
  refine lv_iconst (v := (-1)) hx hb dX0_sellingTub_0 (by decide) ?_
  refine lv_istore_n (lv' := [(1, .int (-1)), (0, .ref (A 0))]) hx hb dX0_sellingTub_1 rfl hl (by decide) rfl (fun ls hl => ?_)
  refine lv_bipush (v := 101) hx hb dX0_sellingTub_2 (by decide) ?_
  refine lv_istore_n (lv' := [(2, .int 101), (1, .int (-1)), (0, .ref (A 0))]) hx hb dX0_sellingTub_4 rfl hl (by decide) rfl (fun ls hl => ?_)
  refine lv_iconst (v := 0) hx hb dX0_sellingTub_5 (by decide) ?_
  refine lv_istore_n (lv' := [(3, .int 0), (2, .int 101), (1, .int (-1)), (0, .ref (A 0))]) hx hb dX0_sellingTub_6 rfl hl (by decide) rfl (fun ls hl => ?_)
  have lp0 : ∀ (n j : Nat), j + n = nt → ∀ (bt : Int32) (bs : Int32), (bt = nxt f j) → (bs = bsf f j) → ∀ (H : Heap) (locs : List Loc), va_P D vwCl (CW cI cC cT A nc nt f g) H → va_D A0 (CW cI cC cT A nc nt f g) → va_S A0 s.heap H locs → ∀ ls, lv_has ls 4 [(3, .int (nI j)), (2, .int bs), (1, .int bt), (0, .ref (A 0))] → W p l e ({ frames := 0, cells := 0, slots := 0, locals := 0 } : Room) s m args below meth c H locs 0 0 (Q0 below D (some (.int (nxt f nt))) (CW cI cC cT A nc nt f g) A0 args s 0 0) (F0 m 7 ls []) := by
    intro n
    induction n with
    | zero =>
      intro j hj bt bs hb1 hb2 H locs hP hD hS ls hl
      have hje : nt = j := by omega
      subst hje
      refine lv_iload_n hx hb dX0_sellingTub_7 rfl (lv_at hl 0 rfl) ?_
      refine lv_aload_n hx hb dX0_sellingTub_8 rfl (lv_at hl 3 rfl) ?_
      refine w_get hx hb hts iX0_sellingTub_X0 hown hK hP 0 rfl rfl 5 (by decide) fX0_sellingTub_68 rfl rfl dX0_sellingTub_9 ?_
      refine lv_icmp_ge (tgt := 58) hx hb dX0_sellingTub_12 (by decide) (fun c_12 => ?_) (fun c_12 => ?_)
      rotate_left
      · exact absurd (Int32.le_refl _) c_12
      refine lv_iload_n hx hb dX0_sellingTub_58 rfl (lv_at hl 2 rfl) ?_
      exact e0_i hx hb hr hlocks hP hS dX0_sellingTub_59 (by decide) (by decide) (by rw [hb1])
    | succ n ih =>
      intro j hj bt bs hb1 hb2 H locs hP hD hS ls hl
      refine lv_iload_n hx hb dX0_sellingTub_7 rfl (lv_at hl 0 rfl) ?_
      refine lv_aload_n hx hb dX0_sellingTub_8 rfl (lv_at hl 3 rfl) ?_
      refine w_get hx hb hts iX0_sellingTub_X0 hown hK hP 0 rfl rfl 5 (by decide) fX0_sellingTub_68 rfl rfl dX0_sellingTub_9 ?_
      refine lv_icmp_ge (tgt := 58) hx hb dX0_sellingTub_12 (by decide) (fun c_12 => ?_) (fun c_12 => ?_)
      · exact absurd c_12 (nI_ge (by omega) (by omega))
      refine lv_aload_n hx hb dX0_sellingTub_15 rfl (lv_at hl 3 rfl) ?_
      refine w_get hx hb hts iX0_sellingTub_X0 hown hK hP 0 rfl rfl 3 (by decide) fX0_sellingTub_29 rfl rfl dX0_sellingTub_16 ?_
      refine lv_iload_n hx hb dX0_sellingTub_19 rfl (lv_at hl 0 rfl) ?_
      refine w_qld hx hb hK hP 4 2 rfl rfl j rfl (by omega) (by decide) (v := A (9 + j)) rfl dX0_sellingTub_20 ?_
      refine w_getN hx hb hts iX0_sellingTub_X2 hown hK hST hP (9 + j) (cw_gtub j (by omega)) rfl 0 (by decide) 6 rfl rfl rfl dX0_sellingTub_21 ?_
      refine lv_if_le (tgt := 52) hx hb dX0_sellingTub_24 (by decide) (fun c_24 => ?_) (fun c_24 => ?_)
      ·
        refine lv_iinc (v := nI (j + 1)) (lv' := [(3, .int (nI (j + 1))), (2, .int bs), (1, .int bt), (0, .ref (A 0))]) hx hb dX0_sellingTub_52 hl (k := 0) rfl (nI_succ _).symm (by decide) rfl (fun ls hl => ?_)
        refine lv_goto (tgt := 7) hx hb dX0_sellingTub_55 (by decide) ?_
        exact ih (j + 1) (by omega) bt bs (by rw [(sel_a c_24).1]; exact hb1) (by rw [(sel_a c_24).2]; exact hb2) _ _ hP hD hS _ (lv_sub hl [0, 1, 2, 3] rfl)
      ·
        refine lv_aload_n hx hb dX0_sellingTub_27 rfl (lv_at hl 3 rfl) ?_
        refine w_get hx hb hts iX0_sellingTub_X0 hown hK hP 0 rfl rfl 3 (by decide) fX0_sellingTub_29 rfl rfl dX0_sellingTub_28 ?_
        refine lv_iload_n hx hb dX0_sellingTub_31 rfl (lv_at hl 0 rfl) ?_
        refine w_qld hx hb hK hP 4 2 rfl rfl j rfl (by omega) (by decide) (v := A (9 + j)) rfl dX0_sellingTub_32 ?_
        refine w_getN hx hb hts iX0_sellingTub_X2 hown hK hST hP (9 + j) (cw_gtub j (by omega)) rfl 1 (by decide) 8 rfl rfl rfl dX0_sellingTub_33 ?_
        refine lv_iload_n hx hb dX0_sellingTub_36 rfl (lv_at hl 1 rfl) ?_
        refine lv_icmp_ge (tgt := 52) hx hb dX0_sellingTub_37 (by decide) (fun c_37 => ?_) (fun c_37 => ?_)
        ·
          refine lv_iinc (v := nI (j + 1)) (lv' := [(3, .int (nI (j + 1))), (2, .int bs), (1, .int bt), (0, .ref (A 0))]) hx hb dX0_sellingTub_52 hl (k := 0) rfl (nI_succ _).symm (by decide) rfl (fun ls hl => ?_)
          refine lv_goto (tgt := 7) hx hb dX0_sellingTub_55 (by decide) ?_
          exact ih (j + 1) (by omega) bt bs (by rw [(sel_b (hb2 ▸ c_37) (hsoft j (by omega))).1]; exact hb1) (by rw [(sel_b (hb2 ▸ c_37) (hsoft j (by omega))).2]; exact hb2) _ _ hP hD hS _ (lv_sub hl [0, 1, 2, 3] rfl)
        ·
          refine lv_iload_n hx hb dX0_sellingTub_40 rfl (lv_at hl 0 rfl) ?_
          refine lv_istore_n (lv' := [(1, .int (nI j)), (3, .int (nI j)), (2, .int bs), (0, .ref (A 0))]) hx hb dX0_sellingTub_41 rfl hl (by decide) rfl (fun ls hl => ?_)
          refine lv_aload_n hx hb dX0_sellingTub_42 rfl (lv_at hl 3 rfl) ?_
          refine w_get hx hb hts iX0_sellingTub_X0 hown hK hP 0 rfl rfl 3 (by decide) fX0_sellingTub_29 rfl rfl dX0_sellingTub_43 ?_
          refine lv_iload_n hx hb dX0_sellingTub_46 rfl (lv_at hl 1 rfl) ?_
          refine w_qld hx hb hK hP 4 2 rfl rfl j rfl (by omega) (by decide) (v := A (9 + j)) rfl dX0_sellingTub_47 ?_
          refine w_getN hx hb hts iX0_sellingTub_X2 hown hK hST hP (9 + j) (cw_gtub j (by omega)) rfl 1 (by decide) 8 rfl rfl rfl dX0_sellingTub_48 ?_
          refine lv_istore_n (lv' := [(2, .int (f (20 + 3 * j))), (1, .int (nI j)), (3, .int (nI j)), (0, .ref (A 0))]) hx hb dX0_sellingTub_51 rfl hl (by decide) rfl (fun ls hl => ?_)
          refine lv_iinc (v := nI (j + 1)) (lv' := [(3, .int (nI (j + 1))), (2, .int (f (20 + 3 * j))), (1, .int (nI j)), (0, .ref (A 0))]) hx hb dX0_sellingTub_52 hl (k := 2) rfl (nI_succ _).symm (by decide) rfl (fun ls hl => ?_)
          refine lv_goto (tgt := 7) hx hb dX0_sellingTub_55 (by decide) ?_
          exact ih (j + 1) (by omega) (nI j) (f (20 + 3 * j)) (sel_c (by omega) (Int32.not_le.mp c_24) (by rw [← hb2]; exact Int32.not_le.mp c_37)).1.symm (sel_c (by omega) (Int32.not_le.mp c_24) (by rw [← hb2]; exact Int32.not_le.mp c_37)).2.symm _ _ hP hD hS _ (lv_sub hl [0, 1, 2, 3] rfl)
  exact lp0 nt 0 (by omega) (-1) 101 rfl rfl _ _ hP hD hS _ (lv_sub hl [0, 1, 2, 3] rfl)

def cntF (nt : Nat) (f g : Nat → Int32) (w : Nat) : Int32 := if w = 0 then f 0 else if w = 1 then hotOf f g else if w = 2 then f 1 else if w = 3 then f 2 else if w = 4 then f 3 else if w = 5 then f 4 else if w = 6 then f 5 else if w = 7 then sumS f nt else if w = 8 then sumD f nt else f 6

set_option maxHeartbeats 4000000 in
set_option maxRecDepth 100000 in
theorem mX0_number_0 (l : Launch) (D : va_G) (cI cC cT cL : ClassId) (A : Nat → Nat) (nc nt : Nat) (f g : Nat → Int32) (hnt : nt ≤ 6) (h : Nat) (hh : h < 2 ^ 31) (h0 : f 0 = nI h) : M0 l yX0_number wsX0_number ({ frames := 2, cells := 0, slots := 0, locals := 44 } : Room) D (TY cI cC cT cL) [.ref (A 0), .int 0] (CW cI cC cT A nc nt f g) (some (.int (cntF nt f g 0))) (CW cI cC cT A nc nt f g) 0 0 := by
  refine M0_of (cc := cX0_number) (maxL := 2) (ret := (some .int)) (by decide +kernel) rfl (Nat.le_of_ble_eq_true rfl) ?_
  intro p e s m args below meth c A0 B ls hl
  obtain ⟨hx, hb, hml, hr, hown, hts, hlocks, hK, hP, hD, hA, hST, hnm⟩ := B
  have hown : s.vm.findClass RX0 = some m.cls := hown
  have hS : va_S A0 s.heap s.heap [] := va_S.rf
  have hl : lv_has ls 2 [(0, .ref (A 0)), (1, .int 0)] := hl
  refine lv_iload_n hx hb dX0_number_0 rfl (lv_at hl 1 rfl) ?_
  refine lv_tableIn (tgt := 52) hx hb dX0_number_1 (by decide) (by decide) rfl (by decide) ?_
  refine lv_aload_n hx hb dX0_number_52 rfl (lv_at hl 0 rfl) ?_
  refine w_get hx hb hts iX0_number_X0 hown hK hP 0 rfl rfl 6 (by decide) fX0_number_41 rfl rfl dX0_number_53 ?_
  exact e0_i hx hb hr hlocks hP hS dX0_number_56 (by decide) (by decide) (by rw [cntF]; rfl)

set_option maxHeartbeats 4000000 in
set_option maxRecDepth 100000 in
theorem mX0_number_1 (l : Launch) (D : va_G) (cI cC cT cL : ClassId) (A : Nat → Nat) (nc nt : Nat) (f g : Nat → Int32) (hnt : nt ≤ 6) (h : Nat) (hh : h < 2 ^ 31) (h0 : f 0 = nI h) : M0 l yX0_number wsX0_number ({ frames := 2, cells := 0, slots := 0, locals := 44 } : Room) D (TY cI cC cT cL) [.ref (A 0), .int 1] (CW cI cC cT A nc nt f g) (some (.int (cntF nt f g 1))) (CW cI cC cT A nc nt f g) 0 0 := by
  refine M0_of (cc := cX0_number) (maxL := 2) (ret := (some .int)) (by decide +kernel) rfl (Nat.le_of_ble_eq_true rfl) ?_
  intro p e s m args below meth c A0 B ls hl
  obtain ⟨hx, hb, hml, hr, hown, hts, hlocks, hK, hP, hD, hA, hST, hnm⟩ := B
  have hown : s.vm.findClass RX0 = some m.cls := hown
  have hS : va_S A0 s.heap s.heap [] := va_S.rf
  have hl : lv_has ls 2 [(0, .ref (A 0)), (1, .int 1)] := hl
  refine lv_iload_n hx hb dX0_number_0 rfl (lv_at hl 1 rfl) ?_
  refine lv_tableIn (tgt := 57) hx hb dX0_number_1 (by decide) (by decide) rfl (by decide) ?_
  refine lv_aload_n hx hb dX0_number_57 rfl (lv_at hl 0 rfl) ?_
  refine lv_aload_n hx hb dX0_number_58 rfl (lv_at hl 0 rfl) ?_
  refine w_get hx hb hts iX0_number_X0 hown hK hP 0 rfl rfl 6 (by decide) fX0_number_41 rfl rfl dX0_number_59 ?_
  refine c0_V (As := [.int (f 0)]) (rest := []) ⟨hx, hb, hml, hown, hts⟩ (mX0_heatAt l D cI cC cT cL A nc nt f g (f 0) h hh h0) (cwV 1 hts gX0_number_X0_heatAt rfl rfl rfl pX0_heatAt ⟨Nat.le_of_ble_eq_true rfl, Nat.le_of_ble_eq_true rfl⟩) hK hP hD hS hA hST (Jn_all _ _ rfl) 0 rfl rfl rfl rfl hl.1 rfl (Nat.le_of_ble_eq_true rfl) dX0_number_62 ⟨Nat.le_of_ble_eq_true rfl, Nat.le_of_ble_eq_true rfl⟩ rfl (fun H locs hP hD hS => ?_)
  exact e0_i hx hb hr hlocks hP hS dX0_number_65 (by decide) (by decide) (by rw [cntF, hotOf, hrN, h0, nI_clamp hh]; rfl)

set_option maxHeartbeats 4000000 in
set_option maxRecDepth 100000 in
theorem mX0_number_2 (l : Launch) (D : va_G) (cI cC cT cL : ClassId) (A : Nat → Nat) (nc nt : Nat) (f g : Nat → Int32) (hnt : nt ≤ 6) (h : Nat) (hh : h < 2 ^ 31) (h0 : f 0 = nI h) : M0 l yX0_number wsX0_number ({ frames := 2, cells := 0, slots := 0, locals := 44 } : Room) D (TY cI cC cT cL) [.ref (A 0), .int 2] (CW cI cC cT A nc nt f g) (some (.int (cntF nt f g 2))) (CW cI cC cT A nc nt f g) 0 0 := by
  refine M0_of (cc := cX0_number) (maxL := 2) (ret := (some .int)) (by decide +kernel) rfl (Nat.le_of_ble_eq_true rfl) ?_
  intro p e s m args below meth c A0 B ls hl
  obtain ⟨hx, hb, hml, hr, hown, hts, hlocks, hK, hP, hD, hA, hST, hnm⟩ := B
  have hown : s.vm.findClass RX0 = some m.cls := hown
  have hS : va_S A0 s.heap s.heap [] := va_S.rf
  have hl : lv_has ls 2 [(0, .ref (A 0)), (1, .int 2)] := hl
  refine lv_iload_n hx hb dX0_number_0 rfl (lv_at hl 1 rfl) ?_
  refine lv_tableIn (tgt := 66) hx hb dX0_number_1 (by decide) (by decide) rfl (by decide) ?_
  refine lv_aload_n hx hb dX0_number_66 rfl (lv_at hl 0 rfl) ?_
  refine w_get hx hb hts iX0_number_X0 hown hK hP 0 rfl rfl 0 (by decide) fX0_number_13 rfl rfl dX0_number_67 ?_
  refine lv_iconst (v := 0) hx hb dX0_number_70 (by decide) ?_
  refine w_ild hx hb hK hP 1 0 rfl rfl 0 rfl (by decide) (by decide) (v := f 1) rfl dX0_number_71 ?_
  exact e0_i hx hb hr hlocks hP hS dX0_number_72 (by decide) (by decide) (by rw [cntF]; rfl)

set_option maxHeartbeats 4000000 in
set_option maxRecDepth 100000 in
theorem mX0_number_3 (l : Launch) (D : va_G) (cI cC cT cL : ClassId) (A : Nat → Nat) (nc nt : Nat) (f g : Nat → Int32) (hnt : nt ≤ 6) (h : Nat) (hh : h < 2 ^ 31) (h0 : f 0 = nI h) : M0 l yX0_number wsX0_number ({ frames := 2, cells := 0, slots := 0, locals := 44 } : Room) D (TY cI cC cT cL) [.ref (A 0), .int 3] (CW cI cC cT A nc nt f g) (some (.int (cntF nt f g 3))) (CW cI cC cT A nc nt f g) 0 0 := by
  refine M0_of (cc := cX0_number) (maxL := 2) (ret := (some .int)) (by decide +kernel) rfl (Nat.le_of_ble_eq_true rfl) ?_
  intro p e s m args below meth c A0 B ls hl
  obtain ⟨hx, hb, hml, hr, hown, hts, hlocks, hK, hP, hD, hA, hST, hnm⟩ := B
  have hown : s.vm.findClass RX0 = some m.cls := hown
  have hS : va_S A0 s.heap s.heap [] := va_S.rf
  have hl : lv_has ls 2 [(0, .ref (A 0)), (1, .int 3)] := hl
  refine lv_iload_n hx hb dX0_number_0 rfl (lv_at hl 1 rfl) ?_
  refine lv_tableIn (tgt := 73) hx hb dX0_number_1 (by decide) (by decide) rfl (by decide) ?_
  refine lv_aload_n hx hb dX0_number_73 rfl (lv_at hl 0 rfl) ?_
  refine w_get hx hb hts iX0_number_X0 hown hK hP 0 rfl rfl 0 (by decide) fX0_number_13 rfl rfl dX0_number_74 ?_
  refine lv_iconst (v := 1) hx hb dX0_number_77 (by decide) ?_
  refine w_ild hx hb hK hP 1 0 rfl rfl 1 rfl (by decide) (by decide) (v := f 2) rfl dX0_number_78 ?_
  exact e0_i hx hb hr hlocks hP hS dX0_number_79 (by decide) (by decide) (by rw [cntF]; rfl)

set_option maxHeartbeats 4000000 in
set_option maxRecDepth 100000 in
theorem mX0_number_4 (l : Launch) (D : va_G) (cI cC cT cL : ClassId) (A : Nat → Nat) (nc nt : Nat) (f g : Nat → Int32) (hnt : nt ≤ 6) (h : Nat) (hh : h < 2 ^ 31) (h0 : f 0 = nI h) : M0 l yX0_number wsX0_number ({ frames := 2, cells := 0, slots := 0, locals := 44 } : Room) D (TY cI cC cT cL) [.ref (A 0), .int 4] (CW cI cC cT A nc nt f g) (some (.int (cntF nt f g 4))) (CW cI cC cT A nc nt f g) 0 0 := by
  refine M0_of (cc := cX0_number) (maxL := 2) (ret := (some .int)) (by decide +kernel) rfl (Nat.le_of_ble_eq_true rfl) ?_
  intro p e s m args below meth c A0 B ls hl
  obtain ⟨hx, hb, hml, hr, hown, hts, hlocks, hK, hP, hD, hA, hST, hnm⟩ := B
  have hown : s.vm.findClass RX0 = some m.cls := hown
  have hS : va_S A0 s.heap s.heap [] := va_S.rf
  have hl : lv_has ls 2 [(0, .ref (A 0)), (1, .int 4)] := hl
  refine lv_iload_n hx hb dX0_number_0 rfl (lv_at hl 1 rfl) ?_
  refine lv_tableIn (tgt := 80) hx hb dX0_number_1 (by decide) (by decide) rfl (by decide) ?_
  refine lv_aload_n hx hb dX0_number_80 rfl (lv_at hl 0 rfl) ?_
  refine w_get hx hb hts iX0_number_X0 hown hK hP 0 rfl rfl 0 (by decide) fX0_number_13 rfl rfl dX0_number_81 ?_
  refine lv_iconst (v := 2) hx hb dX0_number_84 (by decide) ?_
  refine w_ild hx hb hK hP 1 0 rfl rfl 2 rfl (by decide) (by decide) (v := f 3) rfl dX0_number_85 ?_
  exact e0_i hx hb hr hlocks hP hS dX0_number_86 (by decide) (by decide) (by rw [cntF]; rfl)

set_option maxHeartbeats 4000000 in
set_option maxRecDepth 100000 in
theorem mX0_number_5 (l : Launch) (D : va_G) (cI cC cT cL : ClassId) (A : Nat → Nat) (nc nt : Nat) (f g : Nat → Int32) (hnt : nt ≤ 6) (h : Nat) (hh : h < 2 ^ 31) (h0 : f 0 = nI h) : M0 l yX0_number wsX0_number ({ frames := 2, cells := 0, slots := 0, locals := 44 } : Room) D (TY cI cC cT cL) [.ref (A 0), .int 5] (CW cI cC cT A nc nt f g) (some (.int (cntF nt f g 5))) (CW cI cC cT A nc nt f g) 0 0 := by
  refine M0_of (cc := cX0_number) (maxL := 2) (ret := (some .int)) (by decide +kernel) rfl (Nat.le_of_ble_eq_true rfl) ?_
  intro p e s m args below meth c A0 B ls hl
  obtain ⟨hx, hb, hml, hr, hown, hts, hlocks, hK, hP, hD, hA, hST, hnm⟩ := B
  have hown : s.vm.findClass RX0 = some m.cls := hown
  have hS : va_S A0 s.heap s.heap [] := va_S.rf
  have hl : lv_has ls 2 [(0, .ref (A 0)), (1, .int 5)] := hl
  refine lv_iload_n hx hb dX0_number_0 rfl (lv_at hl 1 rfl) ?_
  refine lv_tableIn (tgt := 87) hx hb dX0_number_1 (by decide) (by decide) rfl (by decide) ?_
  refine lv_aload_n hx hb dX0_number_87 rfl (lv_at hl 0 rfl) ?_
  refine w_get hx hb hts iX0_number_X0 hown hK hP 0 rfl rfl 0 (by decide) fX0_number_13 rfl rfl dX0_number_88 ?_
  refine lv_iconst (v := 3) hx hb dX0_number_91 (by decide) ?_
  refine w_ild hx hb hK hP 1 0 rfl rfl 3 rfl (by decide) (by decide) (v := f 4) rfl dX0_number_92 ?_
  exact e0_i hx hb hr hlocks hP hS dX0_number_93 (by decide) (by decide) (by rw [cntF]; rfl)

set_option maxHeartbeats 4000000 in
set_option maxRecDepth 100000 in
theorem mX0_number_6 (l : Launch) (D : va_G) (cI cC cT cL : ClassId) (A : Nat → Nat) (nc nt : Nat) (f g : Nat → Int32) (hnt : nt ≤ 6) (h : Nat) (hh : h < 2 ^ 31) (h0 : f 0 = nI h) : M0 l yX0_number wsX0_number ({ frames := 2, cells := 0, slots := 0, locals := 44 } : Room) D (TY cI cC cT cL) [.ref (A 0), .int 6] (CW cI cC cT A nc nt f g) (some (.int (cntF nt f g 6))) (CW cI cC cT A nc nt f g) 0 0 := by
  refine M0_of (cc := cX0_number) (maxL := 2) (ret := (some .int)) (by decide +kernel) rfl (Nat.le_of_ble_eq_true rfl) ?_
  intro p e s m args below meth c A0 B ls hl
  obtain ⟨hx, hb, hml, hr, hown, hts, hlocks, hK, hP, hD, hA, hST, hnm⟩ := B
  have hown : s.vm.findClass RX0 = some m.cls := hown
  have hS : va_S A0 s.heap s.heap [] := va_S.rf
  have hl : lv_has ls 2 [(0, .ref (A 0)), (1, .int 6)] := hl
  refine lv_iload_n hx hb dX0_number_0 rfl (lv_at hl 1 rfl) ?_
  refine lv_tableIn (tgt := 94) hx hb dX0_number_1 (by decide) (by decide) rfl (by decide) ?_
  refine lv_aload_n hx hb dX0_number_94 rfl (lv_at hl 0 rfl) ?_
  refine w_get hx hb hts iX0_number_X0 hown hK hP 0 rfl rfl 7 (by decide) fX0_number_49 rfl rfl dX0_number_95 ?_
  exact e0_i hx hb hr hlocks hP hS dX0_number_98 (by decide) (by decide) (by rw [cntF]; rfl)

set_option maxHeartbeats 4000000 in
set_option maxRecDepth 100000 in
theorem mX0_number_7 (l : Launch) (D : va_G) (cI cC cT cL : ClassId) (A : Nat → Nat) (nc nt : Nat) (f g : Nat → Int32) (hnt : nt ≤ 6) (h : Nat) (hh : h < 2 ^ 31) (h0 : f 0 = nI h) : M0 l yX0_number wsX0_number ({ frames := 2, cells := 0, slots := 0, locals := 44 } : Room) D (TY cI cC cT cL) [.ref (A 0), .int 7] (CW cI cC cT A nc nt f g) (some (.int (cntF nt f g 7))) (CW cI cC cT A nc nt f g) 0 0 := by
  refine M0_of (cc := cX0_number) (maxL := 2) (ret := (some .int)) (by decide +kernel) rfl (Nat.le_of_ble_eq_true rfl) ?_
  intro p e s m args below meth c A0 B ls hl
  obtain ⟨hx, hb, hml, hr, hown, hts, hlocks, hK, hP, hD, hA, hST, hnm⟩ := B
  have hown : s.vm.findClass RX0 = some m.cls := hown
  have hS : va_S A0 s.heap s.heap [] := va_S.rf
  have hl : lv_has ls 2 [(0, .ref (A 0)), (1, .int 7)] := hl
  refine lv_iload_n hx hb dX0_number_0 rfl (lv_at hl 1 rfl) ?_
  refine lv_tableIn (tgt := 99) hx hb dX0_number_1 (by decide) (by decide) rfl (by decide) ?_
  refine lv_aload_n hx hb dX0_number_99 rfl (lv_at hl 0 rfl) ?_
  refine c0_V (As := []) (rest := []) ⟨hx, hb, hml, hown, hts⟩ (mX0_scoopsInTubs l D cI cC cT cL A nc nt f g hnt) (cwV 0 hts gX0_number_X0_scoopsInTubs rfl rfl rfl pX0_scoopsInTubs ⟨Nat.le_of_ble_eq_true rfl, Nat.le_of_ble_eq_true rfl⟩) hK hP hD hS hA hST (Jn_all _ _ rfl) 0 rfl rfl rfl rfl hl.1 rfl (Nat.le_of_ble_eq_true rfl) dX0_number_100 ⟨Nat.le_of_ble_eq_true rfl, Nat.le_of_ble_eq_true rfl⟩ rfl (fun H locs hP hD hS => ?_)
  exact e0_i hx hb hr hlocks hP hS dX0_number_103 (by decide) (by decide) (by rw [cntF]; rfl)

set_option maxHeartbeats 4000000 in
set_option maxRecDepth 100000 in
theorem mX0_number_8 (l : Launch) (D : va_G) (cI cC cT cL : ClassId) (A : Nat → Nat) (nc nt : Nat) (f g : Nat → Int32) (hnt : nt ≤ 6) (h : Nat) (hh : h < 2 ^ 31) (h0 : f 0 = nI h) : M0 l yX0_number wsX0_number ({ frames := 2, cells := 0, slots := 0, locals := 44 } : Room) D (TY cI cC cT cL) [.ref (A 0), .int 8] (CW cI cC cT A nc nt f g) (some (.int (cntF nt f g 8))) (CW cI cC cT A nc nt f g) 0 0 := by
  refine M0_of (cc := cX0_number) (maxL := 2) (ret := (some .int)) (by decide +kernel) rfl (Nat.le_of_ble_eq_true rfl) ?_
  intro p e s m args below meth c A0 B ls hl
  obtain ⟨hx, hb, hml, hr, hown, hts, hlocks, hK, hP, hD, hA, hST, hnm⟩ := B
  have hown : s.vm.findClass RX0 = some m.cls := hown
  have hS : va_S A0 s.heap s.heap [] := va_S.rf
  have hl : lv_has ls 2 [(0, .ref (A 0)), (1, .int 8)] := hl
  refine lv_iload_n hx hb dX0_number_0 rfl (lv_at hl 1 rfl) ?_
  refine lv_tableIn (tgt := 104) hx hb dX0_number_1 (by decide) (by decide) rfl (by decide) ?_
  refine lv_aload_n hx hb dX0_number_104 rfl (lv_at hl 0 rfl) ?_
  refine c0_V (As := []) (rest := []) ⟨hx, hb, hml, hown, hts⟩ (mX0_soldScoops l D cI cC cT cL A nc nt f g hnt) (cwV 0 hts gX0_number_X0_soldScoops rfl rfl rfl pX0_soldScoops ⟨Nat.le_of_ble_eq_true rfl, Nat.le_of_ble_eq_true rfl⟩) hK hP hD hS hA hST (Jn_all _ _ rfl) 0 rfl rfl rfl rfl hl.1 rfl (Nat.le_of_ble_eq_true rfl) dX0_number_105 ⟨Nat.le_of_ble_eq_true rfl, Nat.le_of_ble_eq_true rfl⟩ rfl (fun H locs hP hD hS => ?_)
  exact e0_i hx hb hr hlocks hP hS dX0_number_108 (by decide) (by decide) (by rw [cntF]; rfl)

set_option maxHeartbeats 4000000 in
set_option maxRecDepth 100000 in
theorem mX0_number_9 (l : Launch) (D : va_G) (cI cC cT cL : ClassId) (A : Nat → Nat) (nc nt : Nat) (f g : Nat → Int32) (hnt : nt ≤ 6) (h : Nat) (hh : h < 2 ^ 31) (h0 : f 0 = nI h) : M0 l yX0_number wsX0_number ({ frames := 2, cells := 0, slots := 0, locals := 44 } : Room) D (TY cI cC cT cL) [.ref (A 0), .int 9] (CW cI cC cT A nc nt f g) (some (.int (cntF nt f g 9))) (CW cI cC cT A nc nt f g) 0 0 := by
  refine M0_of (cc := cX0_number) (maxL := 2) (ret := (some .int)) (by decide +kernel) rfl (Nat.le_of_ble_eq_true rfl) ?_
  intro p e s m args below meth c A0 B ls hl
  obtain ⟨hx, hb, hml, hr, hown, hts, hlocks, hK, hP, hD, hA, hST, hnm⟩ := B
  have hown : s.vm.findClass RX0 = some m.cls := hown
  have hS : va_S A0 s.heap s.heap [] := va_S.rf
  have hl : lv_has ls 2 [(0, .ref (A 0)), (1, .int 9)] := hl
  refine lv_iload_n hx hb dX0_number_0 rfl (lv_at hl 1 rfl) ?_
  refine lv_tableOut (tgt := 109) hx hb dX0_number_1 (by decide) (by decide) ?_
  refine lv_aload_n hx hb dX0_number_109 rfl (lv_at hl 0 rfl) ?_
  refine w_get hx hb hts iX0_number_X0 hown hK hP 0 rfl rfl 8 (by decide) fX0_number_59 rfl rfl dX0_number_110 ?_
  exact e0_i hx hb hr hlocks hP hS dX0_number_113 (by decide) (by decide) (by rw [cntF]; rfl)

theorem mX0_number (l : Launch) (D : va_G) (cI cC cT cL : ClassId) (A : Nat → Nat) (nc nt : Nat) (f g : Nat → Int32) (hnt : nt ≤ 6) (h : Nat) (hh : h < 2 ^ 31) (h0 : f 0 = nI h) (w : Nat) (hw : w < 10) : M0 l yX0_number wsX0_number ({ frames := 2, cells := 0, slots := 0, locals := 44 } : Room) D (TY cI cC cT cL) [.ref (A 0), .int (nI w)] (CW cI cC cT A nc nt f g) (some (.int (cntF nt f g w))) (CW cI cC cT A nc nt f g) 0 0 := by
  match w, hw with
  | 0, _ => exact mX0_number_0 l D cI cC cT cL A nc nt f g hnt h hh h0
  | 1, _ => exact mX0_number_1 l D cI cC cT cL A nc nt f g hnt h hh h0
  | 2, _ => exact mX0_number_2 l D cI cC cT cL A nc nt f g hnt h hh h0
  | 3, _ => exact mX0_number_3 l D cI cC cT cL A nc nt f g hnt h hh h0
  | 4, _ => exact mX0_number_4 l D cI cC cT cL A nc nt f g hnt h hh h0
  | 5, _ => exact mX0_number_5 l D cI cC cT cL A nc nt f g hnt h hh h0
  | 6, _ => exact mX0_number_6 l D cI cC cT cL A nc nt f g hnt h hh h0
  | 7, _ => exact mX0_number_7 l D cI cC cT cL A nc nt f g hnt h hh h0
  | 8, _ => exact mX0_number_8 l D cI cC cT cL A nc nt f g hnt h hh h0
  | 9, _ => exact mX0_number_9 l D cI cC cT cL A nc nt f g hnt h hh h0
end
section
theorem fX0_hoursUntilFirm_41 : Cond.fieldLink RX0 41 "ColdCreamery$Cellar" "hour" "I" ∈ wsX0_hoursUntilFirm := by decide +kernel
theorem fX0_hoursUntilNoIce_13 : Cond.fieldLink RX0 13 "ColdCreamery$Cellar" "stock" "[I" ∈ wsX0_hoursUntilNoIce := by decide +kernel
theorem fX0_hoursUntilNoIce_41 : Cond.fieldLink RX0 41 "ColdCreamery$Cellar" "hour" "I" ∈ wsX0_hoursUntilNoIce := by decide +kernel
theorem fX0_runHour_13 : Cond.fieldLink RX0 13 "ColdCreamery$Cellar" "stock" "[I" ∈ wsX0_runHour := by decide +kernel
theorem fX0_runHour_23 : Cond.fieldLink RX0 23 "ColdCreamery$Cellar" "churns" "[LColdCreamery$Churn;" ∈ wsX0_runHour := by decide +kernel
theorem fX0_runHour_29 : Cond.fieldLink RX0 29 "ColdCreamery$Cellar" "tubs" "[LColdCreamery$Tub;" ∈ wsX0_runHour := by decide +kernel
theorem fX0_runHour_41 : Cond.fieldLink RX0 41 "ColdCreamery$Cellar" "hour" "I" ∈ wsX0_runHour := by decide +kernel
theorem fX0_runHour_68 : Cond.fieldLink RX0 68 "ColdCreamery$Cellar" "tubCount" "I" ∈ wsX0_runHour := by decide +kernel
theorem fX0_runHour_83 : Cond.fieldLink RX0 83 "ColdCreamery$Cellar" "churnCount" "I" ∈ wsX0_runHour := by decide +kernel
theorem fX0_serveOne_13 : Cond.fieldLink RX0 13 "ColdCreamery$Cellar" "stock" "[I" ∈ wsX0_serveOne := by decide +kernel
theorem fX0_serveOne_29 : Cond.fieldLink RX0 29 "ColdCreamery$Cellar" "tubs" "[LColdCreamery$Tub;" ∈ wsX0_serveOne := by decide +kernel
theorem fX0_serveOne_49 : Cond.fieldLink RX0 49 "ColdCreamery$Cellar" "coins" "I" ∈ wsX0_serveOne := by decide +kernel
theorem fX0_serveOne_59 : Cond.fieldLink RX0 59 "ColdCreamery$Cellar" "sentAway" "I" ∈ wsX0_serveOne := by decide +kernel
theorem fX0_servePeople_41 : Cond.fieldLink RX0 41 "ColdCreamery$Cellar" "hour" "I" ∈ wsX0_servePeople := by decide +kernel
theorem iX0_hoursUntilFirm_X0 : ∀ w ∈ u_ws RX0 TX0 9, w ∈ wsX0_hoursUntilFirm := by decide +kernel
theorem iX0_hoursUntilFirm_X1 : ∀ w ∈ u_ws RX1 TX1 3, w ∈ wsX0_hoursUntilFirm := by decide +kernel
theorem iX0_hoursUntilNoIce_X0 : ∀ w ∈ u_ws RX0 TX0 9, w ∈ wsX0_hoursUntilNoIce := by decide +kernel
theorem iX0_runHour_X0 : ∀ w ∈ u_ws RX0 TX0 9, w ∈ wsX0_runHour := by decide +kernel
theorem iX0_serveOne_X0 : ∀ w ∈ u_ws RX0 TX0 9, w ∈ wsX0_serveOne := by decide +kernel
theorem iX0_servePeople_X0 : ∀ w ∈ u_ws RX0 TX0 9, w ∈ wsX0_servePeople := by decide +kernel
theorem inX0_hoursUntilFirm_X3 : Cond.initialized RX3 ∈ wsX0_hoursUntilFirm := by decide +kernel
theorem inX0_hoursUntilNoIce_X3 : Cond.initialized RX3 ∈ wsX0_hoursUntilNoIce := by decide +kernel
theorem inX0_runHour_X3 : Cond.initialized RX3 ∈ wsX0_runHour := by decide +kernel
theorem pX0_runHour : yX0_runHour.cls = RX0 ∧ yX0_runHour.cls ≠ "java/lang/invoke/MethodHandle" ∧ yX0_runHour.cls ≠ "java/lang/invoke/VarHandle" ∧ (parseMethodDescriptor yX0_runHour.desc).map (fun d => d.parameters.length) = some 0 := by decide +kernel
theorem pX0_sellingTub : yX0_sellingTub.cls = RX0 ∧ yX0_sellingTub.cls ≠ "java/lang/invoke/MethodHandle" ∧ yX0_sellingTub.cls ≠ "java/lang/invoke/VarHandle" ∧ (parseMethodDescriptor yX0_sellingTub.desc).map (fun d => d.parameters.length) = some 0 := by decide +kernel
theorem pX0_serveOne : yX0_serveOne.cls = RX0 ∧ yX0_serveOne.cls ≠ "java/lang/invoke/MethodHandle" ∧ yX0_serveOne.cls ≠ "java/lang/invoke/VarHandle" ∧ (parseMethodDescriptor yX0_serveOne.desc).map (fun d => d.parameters.length) = some 0 := by decide +kernel
theorem pX0_servePeople : yX0_servePeople.cls = RX0 ∧ yX0_servePeople.cls ≠ "java/lang/invoke/MethodHandle" ∧ yX0_servePeople.cls ≠ "java/lang/invoke/VarHandle" ∧ (parseMethodDescriptor yX0_servePeople.desc).map (fun d => d.parameters.length) = some 1 := by decide +kernel
theorem pX1_turn : yX1_turn.cls = RX1 ∧ yX1_turn.cls ≠ "java/lang/invoke/MethodHandle" ∧ yX1_turn.cls ≠ "java/lang/invoke/VarHandle" ∧ (parseMethodDescriptor yX1_turn.desc).map (fun d => d.parameters.length) = some 1 := by decide +kernel
theorem pX2_forgetSoftnessIfEmpty : yX2_forgetSoftnessIfEmpty.cls = RX2 ∧ yX2_forgetSoftnessIfEmpty.cls ≠ "java/lang/invoke/MethodHandle" ∧ yX2_forgetSoftnessIfEmpty.cls ≠ "java/lang/invoke/VarHandle" ∧ (parseMethodDescriptor yX2_forgetSoftnessIfEmpty.desc).map (fun d => d.parameters.length) = some 0 := by decide +kernel
theorem pX2_sellScoop : yX2_sellScoop.cls = RX2 ∧ yX2_sellScoop.cls ≠ "java/lang/invoke/MethodHandle" ∧ yX2_sellScoop.cls ≠ "java/lang/invoke/VarHandle" ∧ (parseMethodDescriptor yX2_sellScoop.desc).map (fun d => d.parameters.length) = some 0 := by decide +kernel
theorem pX2_standInHeat : yX2_standInHeat.cls = RX2 ∧ yX2_standInHeat.cls ≠ "java/lang/invoke/MethodHandle" ∧ yX2_standInHeat.cls ≠ "java/lang/invoke/VarHandle" ∧ (parseMethodDescriptor yX2_standInHeat.desc).map (fun d => d.parameters.length) = some 2 := by decide +kernel
theorem pX3_iceAfterHour : yX3_iceAfterHour.cls ≠ "java/lang/invoke/MethodHandle" ∧ yX3_iceAfterHour.cls ≠ "java/lang/invoke/VarHandle" ∧ (parseMethodDescriptor yX3_iceAfterHour.desc).map (fun d => d.parameters.length) = some 3 := by decide +kernel
theorem stX0_hoursUntilFirm_X3_coldAfterHour : Cond.static yX3_coldAfterHour ∈ wsX0_hoursUntilFirm := by decide +kernel
theorem stX0_hoursUntilFirm_X3_firmAfterHour : Cond.static yX3_firmAfterHour ∈ wsX0_hoursUntilFirm := by decide +kernel
theorem stX0_hoursUntilNoIce_X3_iceAfterHour : Cond.static yX3_iceAfterHour ∈ wsX0_hoursUntilNoIce := by decide +kernel
theorem stX0_runHour_X3_iceAfterHour : Cond.static yX3_iceAfterHour ∈ wsX0_runHour := by decide +kernel
end
section
theorem nxt_go {f : Nat → Int32} {nt : Nat} (hnt : nt ≤ 6) (h : ¬ nxt f nt < 0) : ∃ k, k < nt ∧ nxt f nt = nI k ∧ 0 < f (19 + 3 * k) := by
  rcases nxt_in f nt with q | q
  · rw [q] at h; exact absurd (by decide) h
  · exact q
theorem nxt_m1 {f : Nat → Int32} {nt : Nat} (hnt : nt ≤ 6) (h : nxt f nt < 0) : nxt f nt = -1 := by
  rcases nxt_in f nt with q | ⟨k, hk, e, -⟩
  · exact q
  · rw [e] at h; exact absurd h (nI_pos (by omega))
theorem sell_go {f : Nat → Int32} {nt k : Nat} (hnt : nt ≤ 6) (hk : k < nt) (e : nxt f nt = nI k) (h4 : ¬ f 4 = 0) : upd (set3 (upd f 4 (f 4 - 1)) (19 + 3 * k) (upd f 4 (f 4 - 1) (19 + 3 * k) - 1) (upd f 4 (f 4 - 1) (20 + 3 * k)) (upd f 4 (f 4 - 1) (21 + 3 * k) + 1)) 5 (upd f 4 (f 4 - 1) 5 + payF (upd f 4 (f 4 - 1) (20 + 3 * k))) = sell1 nt f := by
  rw [sell1, if_neg (by rw [e]; exact fun q => q.elim (nI_ne_m1 (by omega)) h4), e, nI_clamp (by omega), sellT, up_o (k := 4) (j := 19 + 3 * k) (by omega), up_o (k := 4) (j := 20 + 3 * k) (by omega), up_o (k := 4) (j := 21 + 3 * k) (by omega), up_o (k := 4) (j := 5) (by omega)]

set_option maxHeartbeats 4000000 in
set_option maxRecDepth 100000 in
theorem mX0_serveOne (l : Launch) (D : va_G) (cI cC cT cL : ClassId) (A : Nat → Nat) (nc nt : Nat) (f g : Nat → Int32) (hnt : nt ≤ 6) (hsoft : ∀ t, t < nt → f (20 + 3 * t) ≤ 100) : M0 l yX0_serveOne wsX0_serveOne ({ frames := 1, cells := 0, slots := 0, locals := 23 } : Room) D (TY cI cC cT cL) [.ref (A 0)] (CW cI cC cT A nc nt f g) (none) (CW cI cC cT A nc nt (sell1 nt f) g) 0 0 := by
  refine M0_of (cc := cX0_serveOne) (maxL := 2) (ret := none) (by decide +kernel) rfl (Nat.le_of_ble_eq_true rfl) ?_
  intro p e s m args below meth c A0 B ls hl
  obtain ⟨hx, hb, hml, hr, hown, hts, hlocks, hK, hP, hD, hA, hST, hnm⟩ := B
  have hown : s.vm.findClass RX0 = some m.cls := hown
  have hS : va_S A0 s.heap s.heap [] := va_S.rf
  have hl : lv_has ls 2 [(0, .ref (A 0))] := hl
  refine lv_aload_n hx hb dX0_serveOne_0 rfl (lv_at hl 0 rfl) ?_
  refine c0_V (As := []) (rest := []) ⟨hx, hb, hml, hown, hts⟩ (mX0_sellingTub l D cI cC cT cL A nc nt f g hnt hsoft) (cwV 0 hts gX0_serveOne_X0_sellingTub rfl rfl rfl pX0_sellingTub ⟨Nat.le_of_ble_eq_true rfl, Nat.le_of_ble_eq_true rfl⟩) hK hP hD hS hA hST (Jn_all _ _ rfl) 0 rfl rfl rfl rfl hl.1 rfl (Nat.le_of_ble_eq_true rfl) dX0_serveOne_1 ⟨Nat.le_of_ble_eq_true rfl, Nat.le_of_ble_eq_true rfl⟩ rfl (fun H locs hP hD hS => ?_)
  refine lv_istore_n (lv' := [(1, .int (nxt f nt)), (0, .ref (A 0))]) hx hb dX0_serveOne_4 rfl hl (by decide) rfl (fun ls hl => ?_)
  refine lv_iload_n hx hb dX0_serveOne_5 rfl (lv_at hl 0 rfl) ?_
  refine lv_if_lt (tgt := 18) hx hb dX0_serveOne_6 (by decide) (fun c_6 => ?_) (fun c_6 => ?_)
  ·
    refine lv_aload_n hx hb dX0_serveOne_18 rfl (lv_at hl 1 rfl) ?_
    refine lv_dup hx hb dX0_serveOne_19 rfl ?_
    refine w_get hx hb hts iX0_serveOne_X0 hown hK hP 0 rfl rfl 8 (by decide) fX0_serveOne_59 rfl rfl dX0_serveOne_20 ?_
    refine lv_iconst (v := 1) hx hb dX0_serveOne_23 (by decide) ?_
    refine lv_iadd hx hb dX0_serveOne_24 ?_
    refine w_put (C := RX0) hx hb hts iX0_serveOne_X0 tyX0_ok nmX0 hown hK hP hD hS 0 rfl rfl 8 (by decide) fX0_serveOne_59 rfl rfl rfl rfl (Nat.le_of_ble_eq_true rfl) (ws' := CW cI cC cT A nc nt (upd f 6 ((f 6) + 1)) g) rfl dX0_serveOne_25 (fun H locs hP hD hS => ?_)
    exact e0_v hx hb hr hlocks (P_eq (by rw [sell1, if_pos (Or.inl (nxt_m1 hnt c_6))]) hP) hS dX0_serveOne_28 (by decide) (by decide) (rfl)
  ·
    refine lv_aload_n hx hb dX0_serveOne_9 rfl (lv_at hl 1 rfl) ?_
    refine w_get hx hb hts iX0_serveOne_X0 hown hK hP 0 rfl rfl 0 (by decide) fX0_serveOne_13 rfl rfl dX0_serveOne_10 ?_
    refine lv_iconst (v := 3) hx hb dX0_serveOne_13 (by decide) ?_
    refine w_ild hx hb hK hP 1 0 rfl rfl 3 rfl (by decide) (by decide) (v := f 4) rfl dX0_serveOne_14 ?_
    refine lv_if_ne (tgt := 29) hx hb dX0_serveOne_15 (by decide) (fun c_15 => ?_) (fun c_15 => ?_)
    ·
      obtain ⟨k, hk, ek, hs0⟩ := nxt_go hnt c_6
      refine lv_aload_n hx hb dX0_serveOne_29 rfl (lv_at hl 1 rfl) ?_
      refine w_get hx hb hts iX0_serveOne_X0 hown hK hP 0 rfl rfl 0 (by decide) fX0_serveOne_13 rfl rfl dX0_serveOne_30 ?_
      refine lv_iconst (v := 3) hx hb dX0_serveOne_33 (by decide) ?_
      refine lv_dup2_11 hx hb dX0_serveOne_34 rfl rfl ?_
      refine w_ild hx hb hK hP 1 0 rfl rfl 3 rfl (by decide) (by decide) (v := f 4) rfl dX0_serveOne_35 ?_
      refine lv_iconst (v := 1) hx hb dX0_serveOne_36 (by decide) ?_
      refine lv_isub hx hb dX0_serveOne_37 ?_
      refine w_ist hx hb hK hP hD hS 1 0 rfl rfl 3 rfl (by decide) (by decide) (ws' := CW cI cC cT A nc nt (upd f 4 ((f 4) - 1)) g) (cw_stock 3 (by decide) _) dX0_serveOne_38 (fun H locs hP hD hS => ?_)
      refine lv_aload_n hx hb dX0_serveOne_39 rfl (lv_at hl 1 rfl) ?_
      refine lv_dup hx hb dX0_serveOne_40 rfl ?_
      refine w_get hx hb hts iX0_serveOne_X0 hown hK hP 0 rfl rfl 7 (by decide) fX0_serveOne_49 rfl rfl dX0_serveOne_41 ?_
      refine lv_aload_n hx hb dX0_serveOne_44 rfl (lv_at hl 1 rfl) ?_
      refine w_get hx hb hts iX0_serveOne_X0 hown hK hP 0 rfl rfl 3 (by decide) fX0_serveOne_29 rfl rfl dX0_serveOne_45 ?_
      refine lv_iload_n hx hb dX0_serveOne_48 rfl (lv_at hl 0 rfl) ?_
      refine w_qld hx hb hK hP 4 2 rfl rfl k ek (by omega) (by decide) (v := A (9 + k)) rfl dX0_serveOne_49 ?_
      refine c0_V (As := []) (rest := [.int ((upd f 4 ((f 4) - 1)) 5), .ref (A 0)]) ⟨hx, hb, hml, hown, hts⟩ (mX2_sellScoop l D cI cC cT cL (A (9 + k)) ((upd f 4 ((f 4) - 1)) (19 + 3 * k)) ((upd f 4 ((f 4) - 1)) (20 + 3 * k)) ((upd f 4 ((f 4) - 1)) (21 + 3 * k))) (cwV 0 hts gX0_serveOne_X2_sellScoop rfl rfl rfl pX2_sellScoop ⟨Nat.le_of_ble_eq_true rfl, Nat.le_of_ble_eq_true rfl⟩) hK hP hD hS hA hST (Jn_tub k (by omega) _ _ _) 0 rfl rfl rfl rfl hl.1 rfl (Nat.le_of_ble_eq_true rfl) dX0_serveOne_50 ⟨Nat.le_of_ble_eq_true rfl, Nat.le_of_ble_eq_true rfl⟩ rfl (fun H locs hP hD hS => ?_)
      refine lv_iadd hx hb dX0_serveOne_53 ?_
      refine w_put (C := RX0) hx hb hts iX0_serveOne_X0 tyX0_ok nmX0 hown hK hP hD hS 0 rfl rfl 7 (by decide) fX0_serveOne_49 rfl rfl rfl rfl (Nat.le_of_ble_eq_true rfl) (ws' := CW cI cC cT A nc nt (upd (set3 (upd f 4 ((f 4) - 1)) (19 + 3 * k) (((upd f 4 ((f 4) - 1)) (19 + 3 * k)) - 1) ((upd f 4 ((f 4) - 1)) (20 + 3 * k)) (((upd f 4 ((f 4) - 1)) (21 + 3 * k)) + 1)) 5 (((upd f 4 ((f 4) - 1)) 5) + (payF ((upd f 4 ((f 4) - 1)) (20 + 3 * k))))) g) rfl dX0_serveOne_54 (fun H locs hP hD hS => ?_)
      exact e0_v hx hb hr hlocks (P_eq (by rw [← sell_go hnt hk ek c_15]) hP) hS dX0_serveOne_57 (by decide) (by decide) (rfl)
    ·
      refine lv_aload_n hx hb dX0_serveOne_18 rfl (lv_at hl 1 rfl) ?_
      refine lv_dup hx hb dX0_serveOne_19 rfl ?_
      refine w_get hx hb hts iX0_serveOne_X0 hown hK hP 0 rfl rfl 8 (by decide) fX0_serveOne_59 rfl rfl dX0_serveOne_20 ?_
      refine lv_iconst (v := 1) hx hb dX0_serveOne_23 (by decide) ?_
      refine lv_iadd hx hb dX0_serveOne_24 ?_
      refine w_put (C := RX0) hx hb hts iX0_serveOne_X0 tyX0_ok nmX0 hown hK hP hD hS 0 rfl rfl 8 (by decide) fX0_serveOne_59 rfl rfl rfl rfl (Nat.le_of_ble_eq_true rfl) (ws' := CW cI cC cT A nc nt (upd f 6 ((f 6) + 1)) g) rfl dX0_serveOne_25 (fun H locs hP hD hS => ?_)
      exact e0_v hx hb hr hlocks (P_eq (by rw [sell1, if_pos (Or.inr c_15)]) hP) hS dX0_serveOne_28 (by decide) (by decide) (rfl)

set_option maxHeartbeats 4000000 in
set_option maxRecDepth 100000 in
theorem mX0_servePeople (l : Launch) (D : va_G) (cI cC cT cL : ClassId) (A : Nat → Nat) (nc nt : Nat) (f g : Nat → Int32) (hnt : nt ≤ 6) (hI : Inv f) (q : Nat) (hq : q ≤ 40) : M0 l yX0_servePeople wsX0_servePeople ({ frames := 2, cells := 0, slots := 0, locals := 44 } : Room) D (TY cI cC cT cL) [.ref (A 0), .int (nI q)] (CW cI cC cT A nc nt f g) (none) (CW cI cC cT A nc nt (serveF nt (nI q) f) g) 0 0 := by
  refine M0_of (cc := cX0_servePeople) (maxL := 5) (ret := none) (by decide +kernel) rfl (Nat.le_of_ble_eq_true rfl) ?_
  intro p e s m args below meth c A0 B ls hl
  obtain ⟨hx, hb, hml, hr, hown, hts, hlocks, hK, hP, hD, hA, hST, hnm⟩ := B
  have hown : s.vm.findClass RX0 = some m.cls := hown
  have hS : va_S A0 s.heap s.heap [] := va_S.rf
  have hl : lv_has ls 5 [(0, .ref (A 0)), (1, .int (nI q))] := hl
  refine lv_aload_n hx hb dX0_servePeople_0 rfl (lv_at hl 0 rfl) ?_
  refine w_get hx hb hts iX0_servePeople_X0 hown hK hP 0 rfl rfl 6 (by decide) fX0_servePeople_41 rfl rfl dX0_servePeople_1 ?_
  refine lv_bipush (v := 24) hx hb dX0_servePeople_4 (by decide) ?_
  refine lv_irem hx hb dX0_servePeople_6 (by decide) ?_
  refine lv_istore_n (lv' := [(2, .int ((f 0) - (f 0) / 24 * 24)), (0, .ref (A 0)), (1, .int (nI q))]) hx hb dX0_servePeople_7 rfl hl (by decide) rfl (fun ls hl => ?_)
  refine lv_iload_n hx hb dX0_servePeople_8 rfl (lv_at hl 0 rfl) ?_
  refine lv_bipush (v := 10) hx hb dX0_servePeople_9 (by decide) ?_
  refine lv_icmp_lt (tgt := 20) hx hb dX0_servePeople_11 (by decide) (fun c_11 => ?_) (fun c_11 => ?_)
  ·
    exact e0_v hx hb hr hlocks (P_eq (by rw [serveF, if_neg (fun h => absurd h.1 (Int32.not_le.mpr c_11))]) hP) hS dX0_servePeople_20 (by decide) (by decide) (rfl)
  ·
    refine lv_iload_n hx hb dX0_servePeople_14 rfl (lv_at hl 0 rfl) ?_
    refine lv_bipush (v := 18) hx hb dX0_servePeople_15 (by decide) ?_
    refine lv_icmp_le (tgt := 21) hx hb dX0_servePeople_17 (by decide) (fun c_17 => ?_) (fun c_17 => ?_)
    ·
      refine lv_iload_n hx hb dX0_servePeople_21 rfl (lv_at hl 2 rfl) ?_
      refine lv_iconst (v := 4) hx hb dX0_servePeople_22 (by decide) ?_
      refine lv_idiv hx hb dX0_servePeople_23 (by decide) ?_
      rw [show nI q / 4 = nI (q / 4) from dv (d := 4) (by omega) (by decide) (by decide)]
      refine lv_istore_n (lv' := [(3, .int (nI (q / 4))), (2, .int ((f 0) - (f 0) / 24 * 24)), (0, .ref (A 0)), (1, .int (nI q))]) hx hb dX0_servePeople_24 rfl hl (by decide) rfl (fun ls hl => ?_)
      refine lv_iconst (v := 0) hx hb dX0_servePeople_25 (by decide) ?_
      refine lv_istore (lv' := [(4, .int 0), (3, .int (nI (q / 4))), (2, .int ((f 0) - (f 0) / 24 * 24)), (0, .ref (A 0)), (1, .int (nI q))]) hx hb dX0_servePeople_26 hl (by decide) rfl (fun ls hl => ?_)
      have lp0 : ∀ (n j : Nat), j + n = q / 4 → ∀ (H : Heap) (locs : List Loc), va_P D vwCl (CW cI cC cT A nc nt (rep (sell1 nt) j f) g) H → va_D A0 (CW cI cC cT A nc nt (rep (sell1 nt) j f) g) → va_S A0 s.heap H locs → ∀ ls, lv_has ls 5 [(4, .int (nI j)), (3, .int (nI (q / 4))), (2, .int (f 0 - f 0 / 24 * 24)), (1, .int (nI q)), (0, .ref (A 0))] → W p l e ({ frames := 2, cells := 0, slots := 0, locals := 44 } : Room) s m args below meth c H locs 0 0 (Q0 below D (none) (CW cI cC cT A nc nt (serveF nt (nI q) f) g) A0 args s 0 0) (F0 m 28 ls []) := by
        intro n
        induction n with
        | zero =>
          intro j hj   H locs hP hD hS ls hl
          have hje : q / 4 = j := by omega
          subst hje
          refine lv_iload hx hb dX0_servePeople_28 (lv_at hl 0 rfl) ?_
          refine lv_iload_n hx hb dX0_servePeople_30 rfl (lv_at hl 1 rfl) ?_
          refine lv_icmp_ge (tgt := 44) hx hb dX0_servePeople_31 (by decide) (fun c_31 => ?_) (fun c_31 => ?_)
          rotate_left
          · exact absurd (Int32.le_refl _) c_31
          exact e0_v hx hb hr hlocks (P_eq (by rw [serveF, if_pos ⟨Int32.not_lt.mp c_11, c_17⟩, show nI q / 4 = nI (q / 4) from dv (d := 4) (by omega) (by decide) (by decide), nI_clamp (by omega)]) hP) hS dX0_servePeople_44 (by decide) (by decide) (rfl)
        | succ n ih =>
          intro j hj   H locs hP hD hS ls hl
          refine lv_iload hx hb dX0_servePeople_28 (lv_at hl 0 rfl) ?_
          refine lv_iload_n hx hb dX0_servePeople_30 rfl (lv_at hl 1 rfl) ?_
          refine lv_icmp_ge (tgt := 44) hx hb dX0_servePeople_31 (by decide) (fun c_31 => ?_) (fun c_31 => ?_)
          · exact absurd c_31 (nI_ge (by omega) (by omega))
          refine lv_aload_n hx hb dX0_servePeople_34 rfl (lv_at hl 4 rfl) ?_
          refine c0_V (As := []) (rest := []) ⟨hx, hb, hml, hown, hts⟩ (mX0_serveOne l D cI cC cT cL A nc nt (rep (sell1 nt) j f) g hnt (soft_ok (Inv.rep_ (fun f h => h.sell hnt) hI j) hnt)) (cwV 0 hts gX0_servePeople_X0_serveOne rfl rfl rfl pX0_serveOne ⟨Nat.le_of_ble_eq_true rfl, Nat.le_of_ble_eq_true rfl⟩) hK hP hD hS hA hST (Jn_all _ _ rfl) 0 rfl rfl rfl rfl hl.1 rfl (Nat.le_of_ble_eq_true rfl) dX0_servePeople_35 ⟨Nat.le_of_ble_eq_true rfl, Nat.le_of_ble_eq_true rfl⟩ rfl (fun H locs hP hD hS => ?_)
          refine lv_iinc (v := nI (j + 1)) (lv' := [(4, .int (nI (j + 1))), (3, .int (nI (q / 4))), (2, .int (f 0 - f 0 / 24 * 24)), (1, .int (nI q)), (0, .ref (A 0))]) hx hb dX0_servePeople_38 hl (k := 0) rfl (nI_succ _).symm (by decide) rfl (fun ls hl => ?_)
          refine lv_goto (tgt := 28) hx hb dX0_servePeople_41 (by decide) ?_
          exact ih (j + 1) (by omega) _ _ hP hD hS _ (lv_sub hl [0, 1, 2, 3, 4] rfl)
      exact lp0 (q / 4) 0 (by omega) _ _ hP hD hS _ (lv_sub hl [0, 1, 2, 4, 3] rfl)
    ·
      exact e0_v hx hb hr hlocks (P_eq (by rw [serveF, if_neg (fun h => absurd h.2 c_17)]) hP) hS dX0_servePeople_20 (by decide) (by decide) (rfl)

set_option maxHeartbeats 4000000 in
set_option maxRecDepth 100000 in
theorem mX0_runHour (l : Launch) (D : va_G) (cI cC cT cL : ClassId) (A : Nat → Nat) (nc nt : Nat) (f g : Nat → Int32) (hnc : nc ≤ 4) (hnt : nt ≤ 6) (hI : Inv f) (hg : Gd g) (h : Nat) (hh : h < 2 ^ 30) (h0 : f 0 = nI h) : M0 l yX0_runHour wsX0_runHour ({ frames := 3, cells := 0, slots := 0, locals := 68 } : Room) D (TY cI cC cT cL) [.ref (A 0)] (CW cI cC cT A nc nt f g) (none) (CW cI cC cT A nc nt (hourF nc nt g f) g) 0 0 := by
  refine M0_of (cc := cX0_runHour) (maxL := 3) (ret := none) (by decide +kernel) rfl (Nat.le_of_ble_eq_true rfl) ?_
  intro p e s m args below meth c A0 B ls hl
  obtain ⟨hx, hb, hml, hr, hown, hts, hlocks, hK, hP, hD, hA, hST, hnm⟩ := B
  have hown : s.vm.findClass RX0 = some m.cls := hown
  have hS : va_S A0 s.heap s.heap [] := va_S.rf
  have hl : lv_has ls 3 [(0, .ref (A 0))] := hl
  refine lv_aload_n hx hb dX0_runHour_0 rfl (lv_at hl 0 rfl) ?_
  refine lv_aload_n hx hb dX0_runHour_1 rfl (lv_at hl 0 rfl) ?_
  refine w_get hx hb hts iX0_runHour_X0 hown hK hP 0 rfl rfl 6 (by decide) fX0_runHour_41 rfl rfl dX0_runHour_2 ?_
  refine c0_V (As := [.int (f 0)]) (rest := []) ⟨hx, hb, hml, hown, hts⟩ (mX0_heatAt l D cI cC cT cL A nc nt f g (f 0) h (by omega) h0) (cwV 1 hts gX0_runHour_X0_heatAt rfl rfl rfl pX0_heatAt ⟨Nat.le_of_ble_eq_true rfl, Nat.le_of_ble_eq_true rfl⟩) hK hP hD hS hA hST (Jn_all _ _ rfl) 0 rfl rfl rfl rfl hl.1 rfl (Nat.le_of_ble_eq_true rfl) dX0_runHour_5 ⟨Nat.le_of_ble_eq_true rfl, Nat.le_of_ble_eq_true rfl⟩ rfl (fun H locs hP hD hS => ?_)
  obtain ⟨q, hq, eq⟩ := of_bd (n := 40) (by decide) (hg (h / 24 % 7) (Nat.mod_lt _ (by decide)))
  rw [eq]
  have hhot : hotOf f g = nI q := by rw [hotOf, hrN, h0, nI_clamp (by omega)]; exact eq
  refine lv_istore_n (lv' := [(1, .int (nI q)), (0, .ref (A 0))]) hx hb dX0_runHour_8 rfl hl (by decide) rfl (fun ls hl => ?_)
  refine lv_iconst (v := 0) hx hb dX0_runHour_9 (by decide) ?_
  refine lv_istore_n (lv' := [(2, .int 0), (1, .int (nI q)), (0, .ref (A 0))]) hx hb dX0_runHour_10 rfl hl (by decide) rfl (fun ls hl => ?_)
  have lp0 : ∀ (n j : Nat), j + n = nc → ∀ (H : Heap) (locs : List Loc), va_P D vwCl (CW cI cC cT A nc nt (fo (turn1 (nI q)) j f) g) H → va_D A0 (CW cI cC cT A nc nt (fo (turn1 (nI q)) j f) g) → va_S A0 s.heap H locs → ∀ ls, lv_has ls 3 [(2, .int (nI j)), (1, .int (nI q)), (0, .ref (A 0))] → W p l e ({ frames := 3, cells := 0, slots := 0, locals := 68 } : Room) s m args below meth c H locs 0 0 (Q0 below D (none) (CW cI cC cT A nc nt (hourF nc nt g f) g) A0 args s 0 0) (F0 m 11 ls []) := by
    intro n
    induction n with
    | zero =>
      intro j hj   H locs hP hD hS ls hl
      have hje : nc = j := by omega
      subst hje
      refine lv_iload_n hx hb dX0_runHour_11 rfl (lv_at hl 0 rfl) ?_
      refine lv_aload_n hx hb dX0_runHour_12 rfl (lv_at hl 2 rfl) ?_
      refine w_get hx hb hts iX0_runHour_X0 hown hK hP 0 rfl rfl 4 (by decide) fX0_runHour_83 rfl rfl dX0_runHour_13 ?_
      refine lv_icmp_ge (tgt := 35) hx hb dX0_runHour_16 (by decide) (fun c_16 => ?_) (fun c_16 => ?_)
      rotate_left
      · exact absurd (Int32.le_refl _) c_16
      refine lv_iconst (v := 0) hx hb dX0_runHour_35 (by decide) ?_
      refine lv_istore_n (lv' := [(2, .int 0), (1, .int (nI q)), (0, .ref (A 0))]) hx hb dX0_runHour_36 rfl hl (by decide) rfl (fun ls hl => ?_)
      have lp1 : ∀ (n j : Nat), j + n = nt → ∀ (H : Heap) (locs : List Loc), va_P D vwCl (CW cI cC cT A nc nt (fo (stand1 (nI q)) j (fo (turn1 (nI q)) nc f)) g) H → va_D A0 (CW cI cC cT A nc nt (fo (stand1 (nI q)) j (fo (turn1 (nI q)) nc f)) g) → va_S A0 s.heap H locs → ∀ ls, lv_has ls 3 [(2, .int (nI j)), (1, .int (nI q)), (0, .ref (A 0))] → W p l e ({ frames := 3, cells := 0, slots := 0, locals := 68 } : Room) s m args below meth c H locs 0 0 (Q0 below D (none) (CW cI cC cT A nc nt (hourF nc nt g f) g) A0 args s 0 0) (F0 m 37 ls []) := by
        intro n
        induction n with
        | zero =>
          intro j hj   H locs hP hD hS ls hl
          have hje : nt = j := by omega
          subst hje
          refine lv_iload_n hx hb dX0_runHour_37 rfl (lv_at hl 0 rfl) ?_
          refine lv_aload_n hx hb dX0_runHour_38 rfl (lv_at hl 2 rfl) ?_
          refine w_get hx hb hts iX0_runHour_X0 hown hK hP 0 rfl rfl 5 (by decide) fX0_runHour_68 rfl rfl dX0_runHour_39 ?_
          refine lv_icmp_ge (tgt := 67) hx hb dX0_runHour_42 (by decide) (fun c_42 => ?_) (fun c_42 => ?_)
          rotate_left
          · exact absurd (Int32.le_refl _) c_42
          have hI2 : Inv (fo (stand1 (nI q)) nt (fo (turn1 (nI q)) nc f)) := Inv.fo_ (N := 6) (fun f i hi h => h.stand (bd_n (n := 40) hq (by decide)) hi) (Inv.fo_ (N := 4) (fun f i hi h => h.turn (bd_n (n := 40) hq (by decide)) hi) hI nc hnc) nt hnt
          refine lv_aload_n hx hb dX0_runHour_67 rfl (lv_at hl 2 rfl) ?_
          refine lv_iload_n hx hb dX0_runHour_68 rfl (lv_at hl 1 rfl) ?_
          refine c0_V (As := [.int (nI q)]) (rest := []) ⟨hx, hb, hml, hown, hts⟩ (mX0_servePeople l D cI cC cT cL A nc nt (fo (stand1 (nI q)) nt (fo (turn1 (nI q)) nc f)) g hnt hI2 q hq) (cwV 1 hts gX0_runHour_X0_servePeople rfl rfl rfl pX0_servePeople ⟨Nat.le_of_ble_eq_true rfl, Nat.le_of_ble_eq_true rfl⟩) hK hP hD hS hA hST (Jn_all _ _ rfl) 0 rfl rfl rfl rfl hl.1 rfl (Nat.le_of_ble_eq_true rfl) dX0_runHour_69 ⟨Nat.le_of_ble_eq_true rfl, Nat.le_of_ble_eq_true rfl⟩ rfl (fun H locs hP hD hS => ?_)
          refine lv_aload_n hx hb dX0_runHour_72 rfl (lv_at hl 2 rfl) ?_
          refine w_get hx hb hts iX0_runHour_X0 hown hK hP 0 rfl rfl 0 (by decide) fX0_runHour_13 rfl rfl dX0_runHour_73 ?_
          refine lv_iconst (v := 0) hx hb dX0_runHour_76 (by decide) ?_
          refine lv_aload_n hx hb dX0_runHour_77 rfl (lv_at hl 2 rfl) ?_
          refine w_get hx hb hts iX0_runHour_X0 hown hK hP 0 rfl rfl 0 (by decide) fX0_runHour_13 rfl rfl dX0_runHour_78 ?_
          refine lv_iconst (v := 0) hx hb dX0_runHour_81 (by decide) ?_
          refine w_ild hx hb hK hP 1 0 rfl rfl 0 rfl (by decide) (by decide) (v := (serveF nt (nI q) (fo (stand1 (nI q)) nt (fo (turn1 (nI q)) nc f))) 1) rfl dX0_runHour_82 ?_
          refine lv_aload_n hx hb dX0_runHour_83 rfl (lv_at hl 2 rfl) ?_
          refine w_get hx hb hts iX0_runHour_X0 hown hK hP 0 rfl rfl 6 (by decide) fX0_runHour_41 rfl rfl dX0_runHour_84 ?_
          refine lv_iload_n hx hb dX0_runHour_87 rfl (lv_at hl 1 rfl) ?_
          refine c0_SN (As := [.int ((serveF nt (nI q) (fo (stand1 (nI q)) nt (fo (turn1 (nI q)) nc f))) 1), .int ((serveF nt (nI q) (fo (stand1 (nI q)) nt (fo (turn1 (nI q)) nc f))) 0), .int (nI q)]) (rest := [.int 0, .ref (A 1)]) ⟨hx, hb, hml, hown, hts⟩ (mX3_iceAfterHour l D cI cC cT cL ((serveF nt (nI q) (fo (stand1 (nI q)) nt (fo (turn1 (nI q)) nc f))) 1) ((serveF nt (nI q) (fo (stand1 (nI q)) nt (fo (turn1 (nI q)) nc f))) 0) (nI q)) ⟨va_cnB 3 hts gX0_runHour_X3_iceAfterHour_n97 rfl rfl rfl (hST.2.1 _ (List.mem_of_getElem? (i := 2) rfl)) (hts _ inX0_runHour_X3) pX3_iceAfterHour ⟨Nat.le_of_ble_eq_true rfl, Nat.le_of_ble_eq_true rfl⟩, hts _ stX0_runHour_X3_iceAfterHour, trivial⟩ hK hP hD hS hA hST (Jn_nil _) rfl hl.1 rfl (Nat.le_of_ble_eq_true rfl) dX0_runHour_88 ⟨Nat.le_of_ble_eq_true rfl, Nat.le_of_ble_eq_true rfl⟩ rfl (fun H locs hP hD hS => ?_)
          refine w_ist hx hb hK hP hD hS 1 0 rfl rfl 0 rfl (by decide) (by decide) (ws' := CW cI cC cT A nc nt (upd (serveF nt (nI q) (fo (stand1 (nI q)) nt (fo (turn1 (nI q)) nc f))) 1 (iceA ((serveF nt (nI q) (fo (stand1 (nI q)) nt (fo (turn1 (nI q)) nc f))) 1) ((serveF nt (nI q) (fo (stand1 (nI q)) nt (fo (turn1 (nI q)) nc f))) 0) (nI q))) g) (cw_stock 0 (by decide) _) dX0_runHour_91 (fun H locs hP hD hS => ?_)
          refine lv_aload_n hx hb dX0_runHour_92 rfl (lv_at hl 2 rfl) ?_
          refine lv_dup hx hb dX0_runHour_93 rfl ?_
          refine w_get hx hb hts iX0_runHour_X0 hown hK hP 0 rfl rfl 6 (by decide) fX0_runHour_41 rfl rfl dX0_runHour_94 ?_
          refine lv_iconst (v := 1) hx hb dX0_runHour_97 (by decide) ?_
          refine lv_iadd hx hb dX0_runHour_98 ?_
          refine w_put (C := RX0) hx hb hts iX0_runHour_X0 tyX0_ok nmX0 hown hK hP hD hS 0 rfl rfl 6 (by decide) fX0_runHour_41 rfl rfl rfl rfl (Nat.le_of_ble_eq_true rfl) (ws' := CW cI cC cT A nc nt (upd (upd (serveF nt (nI q) (fo (stand1 (nI q)) nt (fo (turn1 (nI q)) nc f))) 1 (iceA ((serveF nt (nI q) (fo (stand1 (nI q)) nt (fo (turn1 (nI q)) nc f))) 1) ((serveF nt (nI q) (fo (stand1 (nI q)) nt (fo (turn1 (nI q)) nc f))) 0) (nI q))) 0 (((upd (serveF nt (nI q) (fo (stand1 (nI q)) nt (fo (turn1 (nI q)) nc f))) 1 (iceA ((serveF nt (nI q) (fo (stand1 (nI q)) nt (fo (turn1 (nI q)) nc f))) 1) ((serveF nt (nI q) (fo (stand1 (nI q)) nt (fo (turn1 (nI q)) nc f))) 0) (nI q))) 0) + 1)) g) rfl dX0_runHour_99 (fun H locs hP hD hS => ?_)
          refine lv_iconst (v := 0) hx hb dX0_runHour_102 (by decide) ?_
          refine lv_istore_n (lv' := [(2, .int 0), (1, .int (nI q)), (0, .ref (A 0))]) hx hb dX0_runHour_103 rfl hl (by decide) rfl (fun ls hl => ?_)
          have lp2 : ∀ (n j : Nat), j + n = nt → ∀ (H : Heap) (locs : List Loc), va_P D vwCl (CW cI cC cT A nc nt (fo forg1 j (upd (upd (serveF nt (nI q) (fo (stand1 (nI q)) nt (fo (turn1 (nI q)) nc f))) 1 (iceA ((serveF nt (nI q) (fo (stand1 (nI q)) nt (fo (turn1 (nI q)) nc f))) 1) ((serveF nt (nI q) (fo (stand1 (nI q)) nt (fo (turn1 (nI q)) nc f))) 0) (nI q))) 0 ((upd (serveF nt (nI q) (fo (stand1 (nI q)) nt (fo (turn1 (nI q)) nc f))) 1 (iceA ((serveF nt (nI q) (fo (stand1 (nI q)) nt (fo (turn1 (nI q)) nc f))) 1) ((serveF nt (nI q) (fo (stand1 (nI q)) nt (fo (turn1 (nI q)) nc f))) 0) (nI q))) 0 + 1))) g) H → va_D A0 (CW cI cC cT A nc nt (fo forg1 j (upd (upd (serveF nt (nI q) (fo (stand1 (nI q)) nt (fo (turn1 (nI q)) nc f))) 1 (iceA ((serveF nt (nI q) (fo (stand1 (nI q)) nt (fo (turn1 (nI q)) nc f))) 1) ((serveF nt (nI q) (fo (stand1 (nI q)) nt (fo (turn1 (nI q)) nc f))) 0) (nI q))) 0 ((upd (serveF nt (nI q) (fo (stand1 (nI q)) nt (fo (turn1 (nI q)) nc f))) 1 (iceA ((serveF nt (nI q) (fo (stand1 (nI q)) nt (fo (turn1 (nI q)) nc f))) 1) ((serveF nt (nI q) (fo (stand1 (nI q)) nt (fo (turn1 (nI q)) nc f))) 0) (nI q))) 0 + 1))) g) → va_S A0 s.heap H locs → ∀ ls, lv_has ls 3 [(2, .int (nI j)), (1, .int (nI q)), (0, .ref (A 0))] → W p l e ({ frames := 3, cells := 0, slots := 0, locals := 68 } : Room) s m args below meth c H locs 0 0 (Q0 below D (none) (CW cI cC cT A nc nt (hourF nc nt g f) g) A0 args s 0 0) (F0 m 104 ls []) := by
            intro n
            induction n with
            | zero =>
              intro j hj   H locs hP hD hS ls hl
              have hje : nt = j := by omega
              subst hje
              refine lv_iload_n hx hb dX0_runHour_104 rfl (lv_at hl 0 rfl) ?_
              refine lv_aload_n hx hb dX0_runHour_105 rfl (lv_at hl 2 rfl) ?_
              refine w_get hx hb hts iX0_runHour_X0 hown hK hP 0 rfl rfl 5 (by decide) fX0_runHour_68 rfl rfl dX0_runHour_106 ?_
              refine lv_icmp_ge (tgt := 127) hx hb dX0_runHour_109 (by decide) (fun c_109 => ?_) (fun c_109 => ?_)
              rotate_left
              · exact absurd (Int32.le_refl _) c_109
              exact e0_v hx hb hr hlocks (P_eq (by rw [hourF, hhot]; rfl) hP) hS dX0_runHour_127 (by decide) (by decide) (rfl)
            | succ n ih =>
              intro j hj   H locs hP hD hS ls hl
              refine lv_iload_n hx hb dX0_runHour_104 rfl (lv_at hl 0 rfl) ?_
              refine lv_aload_n hx hb dX0_runHour_105 rfl (lv_at hl 2 rfl) ?_
              refine w_get hx hb hts iX0_runHour_X0 hown hK hP 0 rfl rfl 5 (by decide) fX0_runHour_68 rfl rfl dX0_runHour_106 ?_
              refine lv_icmp_ge (tgt := 127) hx hb dX0_runHour_109 (by decide) (fun c_109 => ?_) (fun c_109 => ?_)
              · exact absurd c_109 (nI_ge (by omega) (by omega))
              refine lv_aload_n hx hb dX0_runHour_112 rfl (lv_at hl 2 rfl) ?_
              refine w_get hx hb hts iX0_runHour_X0 hown hK hP 0 rfl rfl 3 (by decide) fX0_runHour_29 rfl rfl dX0_runHour_113 ?_
              refine lv_iload_n hx hb dX0_runHour_116 rfl (lv_at hl 0 rfl) ?_
              refine w_qld hx hb hK hP 4 2 rfl rfl j rfl (by omega) (by decide) (v := A (9 + j)) rfl dX0_runHour_117 ?_
              refine c0_V (As := []) (rest := []) ⟨hx, hb, hml, hown, hts⟩ (mX2_forgetSoftnessIfEmpty l D cI cC cT cL (A (9 + j)) ((fo forg1 j (upd (upd (serveF nt (nI q) (fo (stand1 (nI q)) nt (fo (turn1 (nI q)) nc f))) 1 (iceA ((serveF nt (nI q) (fo (stand1 (nI q)) nt (fo (turn1 (nI q)) nc f))) 1) ((serveF nt (nI q) (fo (stand1 (nI q)) nt (fo (turn1 (nI q)) nc f))) 0) (nI q))) 0 ((upd (serveF nt (nI q) (fo (stand1 (nI q)) nt (fo (turn1 (nI q)) nc f))) 1 (iceA ((serveF nt (nI q) (fo (stand1 (nI q)) nt (fo (turn1 (nI q)) nc f))) 1) ((serveF nt (nI q) (fo (stand1 (nI q)) nt (fo (turn1 (nI q)) nc f))) 0) (nI q))) 0 + 1))) (19 + 3 * j)) ((fo forg1 j (upd (upd (serveF nt (nI q) (fo (stand1 (nI q)) nt (fo (turn1 (nI q)) nc f))) 1 (iceA ((serveF nt (nI q) (fo (stand1 (nI q)) nt (fo (turn1 (nI q)) nc f))) 1) ((serveF nt (nI q) (fo (stand1 (nI q)) nt (fo (turn1 (nI q)) nc f))) 0) (nI q))) 0 ((upd (serveF nt (nI q) (fo (stand1 (nI q)) nt (fo (turn1 (nI q)) nc f))) 1 (iceA ((serveF nt (nI q) (fo (stand1 (nI q)) nt (fo (turn1 (nI q)) nc f))) 1) ((serveF nt (nI q) (fo (stand1 (nI q)) nt (fo (turn1 (nI q)) nc f))) 0) (nI q))) 0 + 1))) (20 + 3 * j)) ((fo forg1 j (upd (upd (serveF nt (nI q) (fo (stand1 (nI q)) nt (fo (turn1 (nI q)) nc f))) 1 (iceA ((serveF nt (nI q) (fo (stand1 (nI q)) nt (fo (turn1 (nI q)) nc f))) 1) ((serveF nt (nI q) (fo (stand1 (nI q)) nt (fo (turn1 (nI q)) nc f))) 0) (nI q))) 0 ((upd (serveF nt (nI q) (fo (stand1 (nI q)) nt (fo (turn1 (nI q)) nc f))) 1 (iceA ((serveF nt (nI q) (fo (stand1 (nI q)) nt (fo (turn1 (nI q)) nc f))) 1) ((serveF nt (nI q) (fo (stand1 (nI q)) nt (fo (turn1 (nI q)) nc f))) 0) (nI q))) 0 + 1))) (21 + 3 * j)) ) (cwV 0 hts gX0_runHour_X2_forgetSoftnessIfEmpty rfl rfl rfl pX2_forgetSoftnessIfEmpty ⟨Nat.le_of_ble_eq_true rfl, Nat.le_of_ble_eq_true rfl⟩) hK hP hD hS hA hST (Jn_tub j (by omega) _ _ _) 0 rfl rfl rfl rfl hl.1 rfl (Nat.le_of_ble_eq_true rfl) dX0_runHour_118 ⟨Nat.le_of_ble_eq_true rfl, Nat.le_of_ble_eq_true rfl⟩ rfl (fun H locs hP hD hS => ?_)
              refine lv_iinc (v := nI (j + 1)) (lv' := [(2, .int (nI (j + 1))), (1, .int (nI q)), (0, .ref (A 0))]) hx hb dX0_runHour_121 hl (k := 0) rfl (nI_succ _).symm (by decide) rfl (fun ls hl => ?_)
              refine lv_goto (tgt := 104) hx hb dX0_runHour_124 (by decide) ?_
              exact ih (j + 1) (by omega) _ _ hP hD hS _ (lv_sub hl [0, 1, 2] rfl)
          exact lp2 nt 0 (by omega) _ _ hP hD hS _ (lv_sub hl [0, 1, 2] rfl)
        | succ n ih =>
          intro j hj   H locs hP hD hS ls hl
          refine lv_iload_n hx hb dX0_runHour_37 rfl (lv_at hl 0 rfl) ?_
          refine lv_aload_n hx hb dX0_runHour_38 rfl (lv_at hl 2 rfl) ?_
          refine w_get hx hb hts iX0_runHour_X0 hown hK hP 0 rfl rfl 5 (by decide) fX0_runHour_68 rfl rfl dX0_runHour_39 ?_
          refine lv_icmp_ge (tgt := 67) hx hb dX0_runHour_42 (by decide) (fun c_42 => ?_) (fun c_42 => ?_)
          · exact absurd c_42 (nI_ge (by omega) (by omega))
          refine lv_aload_n hx hb dX0_runHour_45 rfl (lv_at hl 2 rfl) ?_
          refine w_get hx hb hts iX0_runHour_X0 hown hK hP 0 rfl rfl 3 (by decide) fX0_runHour_29 rfl rfl dX0_runHour_46 ?_
          refine lv_iload_n hx hb dX0_runHour_49 rfl (lv_at hl 0 rfl) ?_
          refine w_qld hx hb hK hP 4 2 rfl rfl j rfl (by omega) (by decide) (v := A (9 + j)) rfl dX0_runHour_50 ?_
          refine lv_iload_n hx hb dX0_runHour_51 rfl (lv_at hl 1 rfl) ?_
          refine lv_aload_n hx hb dX0_runHour_52 rfl (lv_at hl 2 rfl) ?_
          refine w_get hx hb hts iX0_runHour_X0 hown hK hP 0 rfl rfl 0 (by decide) fX0_runHour_13 rfl rfl dX0_runHour_53 ?_
          refine lv_iconst (v := 0) hx hb dX0_runHour_56 (by decide) ?_
          refine w_ild hx hb hK hP 1 0 rfl rfl 0 rfl (by decide) (by decide) (v := (fo (stand1 (nI q)) j (fo (turn1 (nI q)) nc f)) 1) rfl dX0_runHour_57 ?_
          refine c0_V (As := [.int (nI q), .int ((fo (stand1 (nI q)) j (fo (turn1 (nI q)) nc f)) 1)]) (rest := []) ⟨hx, hb, hml, hown, hts⟩ (mX2_standInHeat l D cI cC cT cL (A (9 + j)) ((fo (stand1 (nI q)) j (fo (turn1 (nI q)) nc f)) (19 + 3 * j)) ((fo (stand1 (nI q)) j (fo (turn1 (nI q)) nc f)) (20 + 3 * j)) ((fo (stand1 (nI q)) j (fo (turn1 (nI q)) nc f)) (21 + 3 * j)) (nI q) ((fo (stand1 (nI q)) j (fo (turn1 (nI q)) nc f)) 1)) (cwV 2 hts gX0_runHour_X2_standInHeat rfl rfl rfl pX2_standInHeat ⟨Nat.le_of_ble_eq_true rfl, Nat.le_of_ble_eq_true rfl⟩) hK hP hD hS hA hST (Jn_tub j (by omega) _ _ _) 0 rfl rfl rfl rfl hl.1 rfl (Nat.le_of_ble_eq_true rfl) dX0_runHour_58 ⟨Nat.le_of_ble_eq_true rfl, Nat.le_of_ble_eq_true rfl⟩ rfl (fun H locs hP hD hS => ?_)
          refine lv_iinc (v := nI (j + 1)) (lv' := [(2, .int (nI (j + 1))), (1, .int (nI q)), (0, .ref (A 0))]) hx hb dX0_runHour_61 hl (k := 0) rfl (nI_succ _).symm (by decide) rfl (fun ls hl => ?_)
          refine lv_goto (tgt := 37) hx hb dX0_runHour_64 (by decide) ?_
          exact ih (j + 1) (by omega) _ _ hP hD hS _ (lv_sub hl [0, 1, 2] rfl)
      exact lp1 nt 0 (by omega) _ _ hP hD hS _ (lv_sub hl [0, 1, 2] rfl)
    | succ n ih =>
      intro j hj   H locs hP hD hS ls hl
      refine lv_iload_n hx hb dX0_runHour_11 rfl (lv_at hl 0 rfl) ?_
      refine lv_aload_n hx hb dX0_runHour_12 rfl (lv_at hl 2 rfl) ?_
      refine w_get hx hb hts iX0_runHour_X0 hown hK hP 0 rfl rfl 4 (by decide) fX0_runHour_83 rfl rfl dX0_runHour_13 ?_
      refine lv_icmp_ge (tgt := 35) hx hb dX0_runHour_16 (by decide) (fun c_16 => ?_) (fun c_16 => ?_)
      · exact absurd c_16 (nI_ge (by omega) (by omega))
      refine lv_aload_n hx hb dX0_runHour_19 rfl (lv_at hl 2 rfl) ?_
      refine w_get hx hb hts iX0_runHour_X0 hown hK hP 0 rfl rfl 2 (by decide) fX0_runHour_23 rfl rfl dX0_runHour_20 ?_
      refine lv_iload_n hx hb dX0_runHour_23 rfl (lv_at hl 0 rfl) ?_
      refine w_qld hx hb hK hP 3 1 rfl rfl j rfl (by omega) (by decide) (v := A (5 + j)) rfl dX0_runHour_24 ?_
      refine lv_iload_n hx hb dX0_runHour_25 rfl (lv_at hl 1 rfl) ?_
      refine c0_V (As := [.int (nI q)]) (rest := []) ⟨hx, hb, hml, hown, hts⟩ (mX1_turn l D cI cC cT cL (A (5 + j)) ((fo (turn1 (nI q)) j f) (7 + 3 * j)) ((fo (turn1 (nI q)) j f) (8 + 3 * j)) ((fo (turn1 (nI q)) j f) (9 + 3 * j)) (nI q)) (cwV 1 hts gX0_runHour_X1_turn rfl rfl rfl pX1_turn ⟨Nat.le_of_ble_eq_true rfl, Nat.le_of_ble_eq_true rfl⟩) hK hP hD hS hA hST (Jn_churn j (by omega) _ _ _) 0 rfl rfl rfl rfl hl.1 rfl (Nat.le_of_ble_eq_true rfl) dX0_runHour_26 ⟨Nat.le_of_ble_eq_true rfl, Nat.le_of_ble_eq_true rfl⟩ rfl (fun H locs hP hD hS => ?_)
      refine lv_iinc (v := nI (j + 1)) (lv' := [(2, .int (nI (j + 1))), (1, .int (nI q)), (0, .ref (A 0))]) hx hb dX0_runHour_29 hl (k := 0) rfl (nI_succ _).symm (by decide) rfl (fun ls hl => ?_)
      refine lv_goto (tgt := 11) hx hb dX0_runHour_32 (by decide) ?_
      exact ih (j + 1) (by omega) _ _ hP hD hS _ (lv_sub hl [0, 1, 2] rfl)
  exact lp0 nc 0 (by omega) _ _ hP hD hS _ (lv_sub hl [0, 1, 2] rfl)

set_option maxHeartbeats 4000000 in
set_option maxRecDepth 100000 in
theorem mX0_runHours (l : Launch) (D : va_G) (cI cC cT cL : ClassId) (A : Nat → Nat) (nc nt : Nat) (f g : Nat → Int32) (hnc : nc ≤ 4) (hnt : nt ≤ 6) (hI : Inv f) (hg : Gd g) (h : Nat) (h0 : f 0 = nI h) (r : Nat) (hh : h + r < 2 ^ 30) : M0 l yX0_runHours wsX0_runHours ({ frames := 4, cells := 0, slots := 0, locals := 90 } : Room) D (TY cI cC cT cL) [.ref (A 0), .int (nI r)] (CW cI cC cT A nc nt f g) (none) (CW cI cC cT A nc nt (rep (hourF nc nt g) r f) g) 0 0 := by
  refine M0_of (cc := cX0_runHours) (maxL := 3) (ret := none) (by decide +kernel) rfl (Nat.le_of_ble_eq_true rfl) ?_
  intro p e s m args below meth c A0 B ls hl
  obtain ⟨hx, hb, hml, hr, hown, hts, hlocks, hK, hP, hD, hA, hST, hnm⟩ := B
  have hown : s.vm.findClass RX0 = some m.cls := hown
  have hS : va_S A0 s.heap s.heap [] := va_S.rf
  have hl : lv_has ls 3 [(0, .ref (A 0)), (1, .int (nI r))] := hl
  refine lv_iconst (v := 0) hx hb dX0_runHours_0 (by decide) ?_
  refine lv_istore_n (lv' := [(2, .int 0), (0, .ref (A 0)), (1, .int (nI r))]) hx hb dX0_runHours_1 rfl hl (by decide) rfl (fun ls hl => ?_)
  have lp0 : ∀ (n j : Nat), j + n = r → ∀ (H : Heap) (locs : List Loc), va_P D vwCl (CW cI cC cT A nc nt (rep (hourF nc nt g) j f) g) H → va_D A0 (CW cI cC cT A nc nt (rep (hourF nc nt g) j f) g) → va_S A0 s.heap H locs → ∀ ls, lv_has ls 3 [(2, .int (nI j)), (1, .int (nI r)), (0, .ref (A 0))] → W p l e ({ frames := 4, cells := 0, slots := 0, locals := 90 } : Room) s m args below meth c H locs 0 0 (Q0 below D (none) (CW cI cC cT A nc nt (rep (hourF nc nt g) r f) g) A0 args s 0 0) (F0 m 2 ls []) := by
    intro n
    induction n with
    | zero =>
      intro j hj   H locs hP hD hS ls hl
      have hje : r = j := by omega
      subst hje
      refine lv_iload_n hx hb dX0_runHours_2 rfl (lv_at hl 0 rfl) ?_
      refine lv_iload_n hx hb dX0_runHours_3 rfl (lv_at hl 1 rfl) ?_
      refine lv_icmp_ge (tgt := 17) hx hb dX0_runHours_4 (by decide) (fun c_4 => ?_) (fun c_4 => ?_)
      rotate_left
      · exact absurd (Int32.le_refl _) c_4
      exact e0_v hx hb hr hlocks hP hS dX0_runHours_17 (by decide) (by decide) (rfl)
    | succ n ih =>
      intro j hj   H locs hP hD hS ls hl
      refine lv_iload_n hx hb dX0_runHours_2 rfl (lv_at hl 0 rfl) ?_
      refine lv_iload_n hx hb dX0_runHours_3 rfl (lv_at hl 1 rfl) ?_
      refine lv_icmp_ge (tgt := 17) hx hb dX0_runHours_4 (by decide) (fun c_4 => ?_) (fun c_4 => ?_)
      · exact absurd c_4 (nI_ge (by omega) (by omega))
      refine lv_aload_n hx hb dX0_runHours_7 rfl (lv_at hl 2 rfl) ?_
      refine c0_V (As := []) (rest := []) ⟨hx, hb, hml, hown, hts⟩ (mX0_runHour l D cI cC cT cL A nc nt (rep (hourF nc nt g) j f) g hnc hnt (Inv.hours hI hg hnc hnt h0 j (by omega)).1 hg (h + j) (by omega) (Inv.hours hI hg hnc hnt h0 j (by omega)).2) (cwV 0 hts gX0_runHours_X0_runHour rfl rfl rfl pX0_runHour ⟨Nat.le_of_ble_eq_true rfl, Nat.le_of_ble_eq_true rfl⟩) hK hP hD hS hA hST (Jn_all _ _ rfl) 0 rfl rfl rfl rfl hl.1 rfl (Nat.le_of_ble_eq_true rfl) dX0_runHours_8 ⟨Nat.le_of_ble_eq_true rfl, Nat.le_of_ble_eq_true rfl⟩ rfl (fun H locs hP hD hS => ?_)
      refine lv_iinc (v := nI (j + 1)) (lv' := [(2, .int (nI (j + 1))), (1, .int (nI r)), (0, .ref (A 0))]) hx hb dX0_runHours_11 hl (k := 0) rfl (nI_succ _).symm (by decide) rfl (fun ls hl => ?_)
      refine lv_goto (tgt := 2) hx hb dX0_runHours_14 (by decide) ?_
      exact ih (j + 1) (by omega) _ _ hP hD hS _ (lv_sub hl [0, 1, 2] rfl)
  exact lp0 r 0 (by omega) _ _ hP hD hS _ (lv_sub hl [0, 2, 1] rfl)

def coldN (g : Nat → Int32) (h : Nat) (c0 : Int32) : Nat → Int32
  | 0 => c0
  | n + 1 => coldA (coldN g h c0 n) (g ((h + n) / 24 % 7))
def firmN (g : Nat → Int32) (h : Nat) (c0 d0 : Int32) : Nat → Int32
  | 0 => d0
  | n + 1 => firmA (firmN g h c0 d0 n) (coldN g h c0 n)
def fd50 (fm : Nat → Int32) : Nat → Nat → Int32
  | 0, _ => -1
  | n + 1, k => if 50 ≤ fm k then nI k else fd50 fm n (k + 1)
def iceN (f g : Nat → Int32) (h : Nat) : Nat → Int32
  | 0 => f 1
  | n + 1 => iceA (iceN f g h n) (f 0 + nI n) (g ((h + n) / 24 % 7))
def fd0 (fm : Nat → Int32) : Nat → Nat → Int32
  | 0, _ => -1
  | n + 1, k => if fm k = 0 then nI k else fd0 fm n (k + 1)
def doneC (f g : Nat → Int32) (h i : Nat) : Int32 := if f (8 + 3 * i) = 0 then -1 else fd50 (firmN g h (f (7 + 3 * i)) (f (9 + 3 * i))) 101 0

set_option maxHeartbeats 4000000 in
set_option maxRecDepth 100000 in
theorem mX0_hoursUntilFirm (l : Launch) (D : va_G) (cI cC cT cL : ClassId) (A : Nat → Nat) (nc nt : Nat) (f g : Nat → Int32) (i : Nat) (hi : i < 4) (h : Nat) (hh : h < 2 ^ 30) (h0 : f 0 = nI h) : M0 l yX0_hoursUntilFirm wsX0_hoursUntilFirm ({ frames := 2, cells := 0, slots := 0, locals := 43 } : Room) D (TY cI cC cT cL) [.ref (A 0), .ref (A (5 + i))] (CW cI cC cT A nc nt f g) (some (.int (doneC f g h i))) (CW cI cC cT A nc nt f g) 0 0 := by
  refine M0_of (cc := cX0_hoursUntilFirm) (maxL := 5) (ret := (some .int)) (by decide +kernel) rfl (Nat.le_of_ble_eq_true rfl) ?_
  intro p e s m args below meth c A0 B ls hl
  obtain ⟨hx, hb, hml, hr, hown, hts, hlocks, hK, hP, hD, hA, hST, hnm⟩ := B
  have hown : s.vm.findClass RX0 = some m.cls := hown
  have hS : va_S A0 s.heap s.heap [] := va_S.rf
  have hl : lv_has ls 5 [(0, .ref (A 0)), (1, .ref (A (5 + i)))] := hl
  refine lv_aload_n hx hb dX0_hoursUntilFirm_0 rfl (lv_at hl 1 rfl) ?_
  refine w_getN hx hb hts iX0_hoursUntilFirm_X1 hown hK hST hP (5 + i) (cw_gchurn i hi) rfl 1 (by decide) 3 rfl rfl rfl dX0_hoursUntilFirm_1 ?_
  refine lv_if_ne (tgt := 9) hx hb dX0_hoursUntilFirm_4 (by decide) (fun c_4 => ?_) (fun c_4 => ?_)
  ·
    refine lv_aload_n hx hb dX0_hoursUntilFirm_9 rfl (lv_at hl 1 rfl) ?_
    refine w_getN hx hb hts iX0_hoursUntilFirm_X1 hown hK hST hP (5 + i) (cw_gchurn i hi) rfl 2 (by decide) 5 rfl rfl rfl dX0_hoursUntilFirm_10 ?_
    refine lv_istore_n (lv' := [(2, .int (f (9 + 3 * i))), (0, .ref (A 0)), (1, .ref (A (5 + i)))]) hx hb dX0_hoursUntilFirm_13 rfl hl (by decide) rfl (fun ls hl => ?_)
    refine lv_aload_n hx hb dX0_hoursUntilFirm_14 rfl (lv_at hl 2 rfl) ?_
    refine w_getN hx hb hts iX0_hoursUntilFirm_X1 hown hK hST hP (5 + i) (cw_gchurn i hi) rfl 0 (by decide) 1 rfl rfl rfl dX0_hoursUntilFirm_15 ?_
    refine lv_istore_n (lv' := [(3, .int (f (7 + 3 * i))), (2, .int (f (9 + 3 * i))), (0, .ref (A 0)), (1, .ref (A (5 + i)))]) hx hb dX0_hoursUntilFirm_18 rfl hl (by decide) rfl (fun ls hl => ?_)
    refine lv_iconst (v := 0) hx hb dX0_hoursUntilFirm_19 (by decide) ?_
    refine lv_istore (lv' := [(4, .int 0), (3, .int (f (7 + 3 * i))), (2, .int (f (9 + 3 * i))), (0, .ref (A 0)), (1, .ref (A (5 + i)))]) hx hb dX0_hoursUntilFirm_20 hl (by decide) rfl (fun ls hl => ?_)
    have lp0 : ∀ (n j : Nat), j + n = 101 → ∀ (fm : Int32) (cd : Int32), (fm = (firmN g h (f (7 + 3 * i)) (f (9 + 3 * i))) j) → (cd = (coldN g h (f (7 + 3 * i))) j) → (fd50 (firmN g h (f (7 + 3 * i)) (f (9 + 3 * i))) n j = fd50 (firmN g h (f (7 + 3 * i)) (f (9 + 3 * i))) 101 0) → ∀ (H : Heap) (locs : List Loc), va_P D vwCl (CW cI cC cT A nc nt f g) H → va_D A0 (CW cI cC cT A nc nt f g) → va_S A0 s.heap H locs → ∀ ls, lv_has ls 5 [(4, .int (nI j)), (3, .int cd), (2, .int fm), (1, .ref (A (5 + i))), (0, .ref (A 0))] → W p l e ({ frames := 2, cells := 0, slots := 0, locals := 43 } : Room) s m args below meth c H locs 0 0 (Q0 below D (some (.int (doneC f g h i))) (CW cI cC cT A nc nt f g) A0 args s 0 0) (F0 m 22 ls []) := by
      intro n
      induction n with
      | zero =>
        intro j hj fm cd hf hcd hR H locs hP hD hS ls hl
        have hje : 101 = j := by omega
        subst hje
        refine lv_iload hx hb dX0_hoursUntilFirm_22 (lv_at hl 0 rfl) ?_
        refine lv_bipush (v := 100) hx hb dX0_hoursUntilFirm_24 (by decide) ?_
        refine lv_icmp_gt (tgt := 66) hx hb dX0_hoursUntilFirm_26 (by decide) (fun c_26 => ?_) (fun c_26 => ?_)
        rotate_left
        · exact absurd (by decide) c_26
        refine lv_iconst (v := (-1)) hx hb dX0_hoursUntilFirm_66 (by decide) ?_
        exact e0_i hx hb hr hlocks hP hS dX0_hoursUntilFirm_67 (by decide) (by decide) (by rw [doneC, if_neg c_4, ← hR, fd50])
      | succ n ih =>
        intro j hj fm cd hf hcd hR H locs hP hD hS ls hl
        refine lv_iload hx hb dX0_hoursUntilFirm_22 (lv_at hl 0 rfl) ?_
        refine lv_bipush (v := 100) hx hb dX0_hoursUntilFirm_24 (by decide) ?_
        refine lv_icmp_gt (tgt := 66) hx hb dX0_hoursUntilFirm_26 (by decide) (fun c_26 => ?_) (fun c_26 => ?_)
        · exact absurd c_26 (nI_nlt (a := 100) (by omega) (by decide))
        refine lv_iload_n hx hb dX0_hoursUntilFirm_29 rfl (lv_at hl 2 rfl) ?_
        refine lv_bipush (v := 50) hx hb dX0_hoursUntilFirm_30 (by decide) ?_
        refine lv_icmp_lt (tgt := 38) hx hb dX0_hoursUntilFirm_32 (by decide) (fun c_32 => ?_) (fun c_32 => ?_)
        ·
          refine lv_iload_n hx hb dX0_hoursUntilFirm_38 rfl (lv_at hl 2 rfl) ?_
          refine lv_iload_n hx hb dX0_hoursUntilFirm_39 rfl (lv_at hl 1 rfl) ?_
          refine c0_SN (As := [.int fm, .int cd]) (rest := []) ⟨hx, hb, hml, hown, hts⟩ (mX3_firmAfterHour l D cI cC cT cL fm cd) ⟨va_cnB 2 hts gX0_hoursUntilFirm_X3_firmAfterHour_n122 rfl rfl rfl (hST.2.1 _ (List.mem_of_getElem? (i := 5) rfl)) (hts _ inX0_hoursUntilFirm_X3) pX3_firmAfterHour ⟨Nat.le_of_ble_eq_true rfl, Nat.le_of_ble_eq_true rfl⟩, hts _ stX0_hoursUntilFirm_X3_firmAfterHour, trivial⟩ hK hP hD hS hA hST (Jn_nil _) rfl hl.1 rfl (Nat.le_of_ble_eq_true rfl) dX0_hoursUntilFirm_40 ⟨Nat.le_of_ble_eq_true rfl, Nat.le_of_ble_eq_true rfl⟩ rfl (fun H locs hP hD hS => ?_)
          refine lv_istore_n (lv' := [(2, .int (firmA fm cd)), (4, .int (nI j)), (3, .int cd), (1, .ref (A (5 + i))), (0, .ref (A 0))]) hx hb dX0_hoursUntilFirm_43 rfl hl (by decide) rfl (fun ls hl => ?_)
          refine lv_iload_n hx hb dX0_hoursUntilFirm_44 rfl (lv_at hl 2 rfl) ?_
          refine lv_aload_n hx hb dX0_hoursUntilFirm_45 rfl (lv_at hl 4 rfl) ?_
          refine lv_aload_n hx hb dX0_hoursUntilFirm_46 rfl (lv_at hl 4 rfl) ?_
          refine w_get hx hb hts iX0_hoursUntilFirm_X0 hown hK hP 0 rfl rfl 6 (by decide) fX0_hoursUntilFirm_41 rfl rfl dX0_hoursUntilFirm_47 ?_
          refine lv_iload hx hb dX0_hoursUntilFirm_50 (lv_at hl 1 rfl) ?_
          refine lv_iadd hx hb dX0_hoursUntilFirm_52 ?_
          refine c0_V (As := [.int ((f 0) + (nI j))]) (rest := [.int cd]) ⟨hx, hb, hml, hown, hts⟩ (mX0_heatAt l D cI cC cT cL A nc nt f g ((f 0) + (nI j)) (h + j) (by omega) (by rw [h0, nI_add])) (cwV 1 hts gX0_hoursUntilFirm_X0_heatAt rfl rfl rfl pX0_heatAt ⟨Nat.le_of_ble_eq_true rfl, Nat.le_of_ble_eq_true rfl⟩) hK hP hD hS hA hST (Jn_all _ _ rfl) 0 rfl rfl rfl rfl hl.1 rfl (Nat.le_of_ble_eq_true rfl) dX0_hoursUntilFirm_53 ⟨Nat.le_of_ble_eq_true rfl, Nat.le_of_ble_eq_true rfl⟩ rfl (fun H locs hP hD hS => ?_)
          refine c0_SN (As := [.int cd, .int (g ((h + j) / 24 % 7))]) (rest := []) ⟨hx, hb, hml, hown, hts⟩ (mX3_coldAfterHour l D cI cC cT cL cd (g ((h + j) / 24 % 7))) ⟨va_cnB 2 hts gX0_hoursUntilFirm_X3_coldAfterHour_n125 rfl rfl rfl (hST.2.1 _ (List.mem_of_getElem? (i := 6) rfl)) (hts _ inX0_hoursUntilFirm_X3) pX3_coldAfterHour ⟨Nat.le_of_ble_eq_true rfl, Nat.le_of_ble_eq_true rfl⟩, hts _ stX0_hoursUntilFirm_X3_coldAfterHour, trivial⟩ hK hP hD hS hA hST (Jn_nil _) rfl hl.1 rfl (Nat.le_of_ble_eq_true rfl) dX0_hoursUntilFirm_56 ⟨Nat.le_of_ble_eq_true rfl, Nat.le_of_ble_eq_true rfl⟩ rfl (fun H locs hP hD hS => ?_)
          refine lv_istore_n (lv' := [(3, .int (coldA cd (g ((h + j) / 24 % 7)))), (2, .int (firmA fm cd)), (4, .int (nI j)), (1, .ref (A (5 + i))), (0, .ref (A 0))]) hx hb dX0_hoursUntilFirm_59 rfl hl (by decide) rfl (fun ls hl => ?_)
          refine lv_iinc (v := nI (j + 1)) (lv' := [(4, .int (nI (j + 1))), (3, .int (coldA cd (g ((h + j) / 24 % 7)))), (2, .int (firmA fm cd)), (1, .ref (A (5 + i))), (0, .ref (A 0))]) hx hb dX0_hoursUntilFirm_60 hl (k := 2) rfl (nI_succ _).symm (by decide) rfl (fun ls hl => ?_)
          refine lv_goto (tgt := 22) hx hb dX0_hoursUntilFirm_63 (by decide) ?_
          exact ih (j + 1) (by omega) _ _ (by rw [hf, hcd]; rfl) (by rw [hcd]; rfl) (by rw [← hR, fd50, if_neg (by rw [← hf]; exact Int32.not_le.mpr c_32)]) _ _ hP hD hS _ (lv_sub hl [0, 1, 2, 3, 4] rfl)
        ·
          refine lv_iload hx hb dX0_hoursUntilFirm_35 (lv_at hl 0 rfl) ?_
          exact e0_i hx hb hr hlocks hP hS dX0_hoursUntilFirm_37 (by decide) (by decide) (by rw [doneC, if_neg c_4, ← hR, fd50, if_pos (by rw [← hf]; exact Int32.not_lt.mp c_32)])
    exact lp0 101 0 rfl _ _ rfl rfl rfl _ _ hP hD hS _ (lv_sub hl [0, 1, 2, 4, 3] rfl)
  ·
    refine lv_iconst (v := (-1)) hx hb dX0_hoursUntilFirm_7 (by decide) ?_
    exact e0_i hx hb hr hlocks hP hS dX0_hoursUntilFirm_8 (by decide) (by decide) (by rw [doneC, if_pos c_4])

set_option maxHeartbeats 4000000 in
set_option maxRecDepth 100000 in
theorem mX0_hoursUntilNoIce (l : Launch) (D : va_G) (cI cC cT cL : ClassId) (A : Nat → Nat) (nc nt : Nat) (f g : Nat → Int32) (h : Nat) (hh : h < 2 ^ 30) (h0 : f 0 = nI h) : M0 l yX0_hoursUntilNoIce wsX0_hoursUntilNoIce ({ frames := 2, cells := 0, slots := 0, locals := 43 } : Room) D (TY cI cC cT cL) [.ref (A 0)] (CW cI cC cT A nc nt f g) (some (.int (fd0 (iceN f g h) 1000 0))) (CW cI cC cT A nc nt f g) 0 0 := by
  refine M0_of (cc := cX0_hoursUntilNoIce) (maxL := 3) (ret := (some .int)) (by decide +kernel) rfl (Nat.le_of_ble_eq_true rfl) ?_
  intro p e s m args below meth c A0 B ls hl
  obtain ⟨hx, hb, hml, hr, hown, hts, hlocks, hK, hP, hD, hA, hST, hnm⟩ := B
  have hown : s.vm.findClass RX0 = some m.cls := hown
  have hS : va_S A0 s.heap s.heap [] := va_S.rf
  have hl : lv_has ls 3 [(0, .ref (A 0))] := hl
  refine lv_aload_n hx hb dX0_hoursUntilNoIce_0 rfl (lv_at hl 0 rfl) ?_
  refine w_get hx hb hts iX0_hoursUntilNoIce_X0 hown hK hP 0 rfl rfl 0 (by decide) fX0_hoursUntilNoIce_13 rfl rfl dX0_hoursUntilNoIce_1 ?_
  refine lv_iconst (v := 0) hx hb dX0_hoursUntilNoIce_4 (by decide) ?_
  refine w_ild hx hb hK hP 1 0 rfl rfl 0 rfl (by decide) (by decide) (v := f 1) rfl dX0_hoursUntilNoIce_5 ?_
  refine lv_istore_n (lv' := [(1, .int (f 1)), (0, .ref (A 0))]) hx hb dX0_hoursUntilNoIce_6 rfl hl (by decide) rfl (fun ls hl => ?_)
  refine lv_iconst (v := 0) hx hb dX0_hoursUntilNoIce_7 (by decide) ?_
  refine lv_istore_n (lv' := [(2, .int 0), (1, .int (f 1)), (0, .ref (A 0))]) hx hb dX0_hoursUntilNoIce_8 rfl hl (by decide) rfl (fun ls hl => ?_)
  have lp0 : ∀ (n j : Nat), j + n = 1000 → ∀ (ic : Int32), (ic = (iceN f g h) j) → (fd0 (iceN f g h) n j = fd0 (iceN f g h) 1000 0) → ∀ (H : Heap) (locs : List Loc), va_P D vwCl (CW cI cC cT A nc nt f g) H → va_D A0 (CW cI cC cT A nc nt f g) → va_S A0 s.heap H locs → ∀ ls, lv_has ls 3 [(2, .int (nI j)), (1, .int ic), (0, .ref (A 0))] → W p l e ({ frames := 2, cells := 0, slots := 0, locals := 43 } : Room) s m args below meth c H locs 0 0 (Q0 below D (some (.int (fd0 (iceN f g h) 1000 0))) (CW cI cC cT A nc nt f g) A0 args s 0 0) (F0 m 9 ls []) := by
    intro n
    induction n with
    | zero =>
      intro j hj ic hf hR H locs hP hD hS ls hl
      have hje : 1000 = j := by omega
      subst hje
      refine lv_iload_n hx hb dX0_hoursUntilNoIce_9 rfl (lv_at hl 0 rfl) ?_
      refine lv_sipush (v := 999) hx hb dX0_hoursUntilNoIce_10 (by decide) ?_
      refine lv_icmp_gt (tgt := 49) hx hb dX0_hoursUntilNoIce_13 (by decide) (fun c_13 => ?_) (fun c_13 => ?_)
      rotate_left
      · exact absurd (by decide) c_13
      refine lv_iconst (v := (-1)) hx hb dX0_hoursUntilNoIce_49 (by decide) ?_
      exact e0_i hx hb hr hlocks hP hS dX0_hoursUntilNoIce_50 (by decide) (by decide) (by rw [← hR, fd0])
    | succ n ih =>
      intro j hj ic hf hR H locs hP hD hS ls hl
      refine lv_iload_n hx hb dX0_hoursUntilNoIce_9 rfl (lv_at hl 0 rfl) ?_
      refine lv_sipush (v := 999) hx hb dX0_hoursUntilNoIce_10 (by decide) ?_
      refine lv_icmp_gt (tgt := 49) hx hb dX0_hoursUntilNoIce_13 (by decide) (fun c_13 => ?_) (fun c_13 => ?_)
      · exact absurd c_13 (nI_nlt (a := 999) (by omega) (by decide))
      refine lv_iload_n hx hb dX0_hoursUntilNoIce_16 rfl (lv_at hl 1 rfl) ?_
      refine lv_if_ne (tgt := 22) hx hb dX0_hoursUntilNoIce_17 (by decide) (fun c_17 => ?_) (fun c_17 => ?_)
      ·
        refine lv_iload_n hx hb dX0_hoursUntilNoIce_22 rfl (lv_at hl 1 rfl) ?_
        refine lv_aload_n hx hb dX0_hoursUntilNoIce_23 rfl (lv_at hl 2 rfl) ?_
        refine w_get hx hb hts iX0_hoursUntilNoIce_X0 hown hK hP 0 rfl rfl 6 (by decide) fX0_hoursUntilNoIce_41 rfl rfl dX0_hoursUntilNoIce_24 ?_
        refine lv_iload_n hx hb dX0_hoursUntilNoIce_27 rfl (lv_at hl 0 rfl) ?_
        refine lv_iadd hx hb dX0_hoursUntilNoIce_28 ?_
        refine lv_aload_n hx hb dX0_hoursUntilNoIce_29 rfl (lv_at hl 2 rfl) ?_
        refine lv_aload_n hx hb dX0_hoursUntilNoIce_30 rfl (lv_at hl 2 rfl) ?_
        refine w_get hx hb hts iX0_hoursUntilNoIce_X0 hown hK hP 0 rfl rfl 6 (by decide) fX0_hoursUntilNoIce_41 rfl rfl dX0_hoursUntilNoIce_31 ?_
        refine lv_iload_n hx hb dX0_hoursUntilNoIce_34 rfl (lv_at hl 0 rfl) ?_
        refine lv_iadd hx hb dX0_hoursUntilNoIce_35 ?_
        refine c0_V (As := [.int ((f 0) + (nI j))]) (rest := [.int ((f 0) + (nI j)), .int ic]) ⟨hx, hb, hml, hown, hts⟩ (mX0_heatAt l D cI cC cT cL A nc nt f g ((f 0) + (nI j)) (h + j) (by omega) (by rw [h0, nI_add])) (cwV 1 hts gX0_hoursUntilNoIce_X0_heatAt rfl rfl rfl pX0_heatAt ⟨Nat.le_of_ble_eq_true rfl, Nat.le_of_ble_eq_true rfl⟩) hK hP hD hS hA hST (Jn_all _ _ rfl) 0 rfl rfl rfl rfl hl.1 rfl (Nat.le_of_ble_eq_true rfl) dX0_hoursUntilNoIce_36 ⟨Nat.le_of_ble_eq_true rfl, Nat.le_of_ble_eq_true rfl⟩ rfl (fun H locs hP hD hS => ?_)
        refine c0_SN (As := [.int ic, .int ((f 0) + (nI j)), .int (g ((h + j) / 24 % 7))]) (rest := []) ⟨hx, hb, hml, hown, hts⟩ (mX3_iceAfterHour l D cI cC cT cL ic ((f 0) + (nI j)) (g ((h + j) / 24 % 7))) ⟨va_cnB 3 hts gX0_hoursUntilNoIce_X3_iceAfterHour_n97 rfl rfl rfl (hST.2.1 _ (List.mem_of_getElem? (i := 2) rfl)) (hts _ inX0_hoursUntilNoIce_X3) pX3_iceAfterHour ⟨Nat.le_of_ble_eq_true rfl, Nat.le_of_ble_eq_true rfl⟩, hts _ stX0_hoursUntilNoIce_X3_iceAfterHour, trivial⟩ hK hP hD hS hA hST (Jn_nil _) rfl hl.1 rfl (Nat.le_of_ble_eq_true rfl) dX0_hoursUntilNoIce_39 ⟨Nat.le_of_ble_eq_true rfl, Nat.le_of_ble_eq_true rfl⟩ rfl (fun H locs hP hD hS => ?_)
        refine lv_istore_n (lv' := [(1, .int (iceA ic ((f 0) + (nI j)) (g ((h + j) / 24 % 7)))), (2, .int (nI j)), (0, .ref (A 0))]) hx hb dX0_hoursUntilNoIce_42 rfl hl (by decide) rfl (fun ls hl => ?_)
        refine lv_iinc (v := nI (j + 1)) (lv' := [(2, .int (nI (j + 1))), (1, .int (iceA ic ((f 0) + (nI j)) (g ((h + j) / 24 % 7)))), (0, .ref (A 0))]) hx hb dX0_hoursUntilNoIce_43 hl (k := 1) rfl (nI_succ _).symm (by decide) rfl (fun ls hl => ?_)
        refine lv_goto (tgt := 9) hx hb dX0_hoursUntilNoIce_46 (by decide) ?_
        exact ih (j + 1) (by omega) _ (by rw [hf]; rfl) (by rw [← hR, fd0, if_neg (by rw [← hf]; exact c_17)]) _ _ hP hD hS _ (lv_sub hl [0, 1, 2] rfl)
      ·
        refine lv_iload_n hx hb dX0_hoursUntilNoIce_20 rfl (lv_at hl 0 rfl) ?_
        exact e0_i hx hb hr hlocks hP hS dX0_hoursUntilNoIce_21 (by decide) (by decide) (by rw [← hR, fd0, if_pos (by rw [← hf]; exact c_17)])
  exact lp0 1000 0 rfl _ rfl rfl _ _ hP hD hS _ (lv_sub hl [0, 1, 2] rfl)
end
section
theorem acX0_init_int : Cond.arrayClass .int ∈ wsX0_init := by decide +kernel
theorem clX0_init_21 : Cond.classLink RX0 21 RX1 ∈ wsX0_init := by decide +kernel
theorem clX0_init_27 : Cond.classLink RX0 27 RX2 ∈ wsX0_init := by decide +kernel
theorem fX0_init_13 : Cond.fieldLink RX0 13 "ColdCreamery$Cellar" "stock" "[I" ∈ wsX0_init := by decide +kernel
theorem fX0_init_18 : Cond.fieldLink RX0 18 "ColdCreamery$Cellar" "heats" "[I" ∈ wsX0_init := by decide +kernel
theorem fX0_init_23 : Cond.fieldLink RX0 23 "ColdCreamery$Cellar" "churns" "[LColdCreamery$Churn;" ∈ wsX0_init := by decide +kernel
theorem fX0_init_29 : Cond.fieldLink RX0 29 "ColdCreamery$Cellar" "tubs" "[LColdCreamery$Tub;" ∈ wsX0_init := by decide +kernel
theorem iX0_init_X0 : ∀ w ∈ u_ws RX0 TX0 9, w ∈ wsX0_init := by decide +kernel
theorem iX0_init_X1 : ∀ w ∈ u_ws RX1 TX1 3, w ∈ wsX0_init := by decide +kernel
theorem iX0_init_X2 : ∀ w ∈ u_ws RX2 TX2 3, w ∈ wsX0_init := by decide +kernel
theorem imX0_init_X1_init : Cond.instanceMethod yX1_init ∈ wsX0_init := by decide +kernel
theorem imX0_init_X2_init : Cond.instanceMethod yX2_init ∈ wsX0_init := by decide +kernel
theorem inX0_init_X1 : Cond.initialized RX1 ∈ wsX0_init := by decide +kernel
theorem inX0_init_X2 : Cond.initialized RX2 ∈ wsX0_init := by decide +kernel
theorem itX0_init_X1 : Cond.instantiable RX1 3 ∈ wsX0_init := by decide +kernel
theorem itX0_init_X2 : Cond.instantiable RX2 3 ∈ wsX0_init := by decide +kernel
theorem oiX0_init : Cond.methodLink RX0 3 objectInit ∈ wsX0_init := by decide +kernel
theorem ojX0_init : Cond.instanceMethod objectInit ∈ wsX0_init := by decide +kernel
theorem okX0_init : Cond.code objectInit ⟨#[0xb1]⟩ 1 none ∈ wsX0_init := by decide +kernel
theorem pJ7_fill_53178 : yJ7_fill_53178.cls ≠ "java/lang/invoke/MethodHandle" ∧ yJ7_fill_53178.cls ≠ "java/lang/invoke/VarHandle" ∧ (parseMethodDescriptor yJ7_fill_53178.desc).map (fun d => d.parameters.length) = some 2 := by decide +kernel
theorem pX1_init : yX1_init.cls ≠ "java/lang/invoke/MethodHandle" ∧ yX1_init.cls ≠ "java/lang/invoke/VarHandle" ∧ (parseMethodDescriptor yX1_init.desc).map (fun d => d.parameters.length) = some 0 := by decide +kernel
theorem pX2_init : yX2_init.cls ≠ "java/lang/invoke/MethodHandle" ∧ yX2_init.cls ≠ "java/lang/invoke/VarHandle" ∧ (parseMethodDescriptor yX2_init.desc).map (fun d => d.parameters.length) = some 0 := by decide +kernel
end
section
def fillN (f : Nat → Int32) (v : Int32) (n : Nat) : Nat → Int32 := fun k => if k < n then v else f k
theorem fill_0 (f : Nat → Int32) (v : Int32) : fillN f v 0 = f := by funext k; simp [fillN]
theorem fill_s (f : Nat → Int32) (v : Int32) (n : Nat) : upd (fillN f v n) n v = fillN f v (n + 1) := by
  funext k
  unfold upd fillN
  by_cases h : k = n
  · rw [if_pos h, if_pos (by omega)]
  · by_cases h2 : k < n
    · rw [if_neg h, if_pos h2, if_pos (by omega)]
    · rw [if_neg h, if_neg h2, if_neg (by omega)]

set_option maxHeartbeats 4000000 in
set_option maxRecDepth 100000 in
theorem mJ7_fill_53178 (l : Launch) (D : va_G) (cI cC cT cL : ClassId) (a n0 : Nat) (f : Nat → Int32) (v : Int32) (hn0 : n0 < 2 ^ 31) : M0 l yJ7_fill_53178 wsJ7_fill_53178 ({ frames := 0, cells := 0, slots := 0, locals := 0 } : Room) D (TY cI cC cT cL) [.ref a, .int v] ([(a, .inl (cI, n0, .inl f))]) (none) ([(a, .inl (cI, n0, .inl (fillN f v n0)))]) 0 0 := by
  refine M0_of (cc := cJ7_fill_53178) (maxL := 4) (ret := none) (by decide +kernel) rfl (Nat.le_of_ble_eq_true rfl) ?_
  intro p e s m args below meth c A0 B ls hl
  obtain ⟨hx, hb, hml, hr, hown, hts, hlocks, hK, hP, hD, hA, hST, hnm⟩ := B
  have hown : s.vm.findClass RJ7 = some m.cls := hown
  have hS : va_S A0 s.heap s.heap [] := va_S.rf
  have hl : lv_has ls 4 [(0, .ref a), (1, .int v)] := hl
  refine lv_iconst (v := 0) hx hb dJ7_fill_53178_0 (by decide) ?_
  refine lv_istore_n (lv' := [(2, .int 0), (0, .ref a), (1, .int v)]) hx hb dJ7_fill_53178_1 rfl hl (by decide) rfl (fun ls hl => ?_)
  refine lv_aload_n hx hb dJ7_fill_53178_2 rfl (lv_at hl 1 rfl) ?_
  refine w_alen hx hb hK hP 0 0 rfl rfl dJ7_fill_53178_3 ?_
  refine lv_istore_n (lv' := [(3, .int (nI n0)), (2, .int 0), (0, .ref a), (1, .int v)]) hx hb dJ7_fill_53178_4 rfl hl (by decide) rfl (fun ls hl => ?_)
  have lp0 : ∀ (n j : Nat), j + n = n0 → ∀ (H : Heap) (locs : List Loc), va_P D vwCl ([(a, .inl (cI, n0, .inl (fillN f v j)))]) H → va_D A0 ([(a, .inl (cI, n0, .inl (fillN f v j)))]) → va_S A0 s.heap H locs → ∀ ls, lv_has ls 4 [(2, .int (nI j)), (3, .int (nI n0)), (0, .ref a), (1, .int v)] → W p l e ({ frames := 0, cells := 0, slots := 0, locals := 0 } : Room) s m args below meth c H locs 0 0 (Q0 below D (none) ([(a, .inl (cI, n0, .inl (fillN f v n0)))]) A0 args s 0 0) (F0 m 5 ls []) := by
    intro n
    induction n with
    | zero =>
      intro j hj   H locs hP hD hS ls hl
      have hje : n0 = j := by omega
      subst hje
      refine lv_iload_n hx hb dJ7_fill_53178_5 rfl (lv_at hl 0 rfl) ?_
      refine lv_iload_n hx hb dJ7_fill_53178_6 rfl (lv_at hl 1 rfl) ?_
      refine lv_icmp_ge (tgt := 20) hx hb dJ7_fill_53178_7 (by decide) (fun c_7 => ?_) (fun c_7 => ?_)
      rotate_left
      · exact absurd (Int32.le_refl _) c_7
      exact e0_v hx hb hr hlocks hP hS dJ7_fill_53178_20 (by decide) (by decide) (rfl)
    | succ n ih =>
      intro j hj   H locs hP hD hS ls hl
      refine lv_iload_n hx hb dJ7_fill_53178_5 rfl (lv_at hl 0 rfl) ?_
      refine lv_iload_n hx hb dJ7_fill_53178_6 rfl (lv_at hl 1 rfl) ?_
      refine lv_icmp_ge (tgt := 20) hx hb dJ7_fill_53178_7 (by decide) (fun c_7 => ?_) (fun c_7 => ?_)
      · exact absurd c_7 (nI_ge (by omega) (by omega))
      refine lv_aload_n hx hb dJ7_fill_53178_10 rfl (lv_at hl 2 rfl) ?_
      refine lv_iload_n hx hb dJ7_fill_53178_11 rfl (lv_at hl 0 rfl) ?_
      refine lv_iload_n hx hb dJ7_fill_53178_12 rfl (lv_at hl 3 rfl) ?_
      refine w_ist hx hb hK hP hD hS 0 0 rfl rfl j rfl (by omega) hn0 (ws' := [(a, .inl (cI, n0, .inl (fillN f v (j + 1))))]) (by rw [← fill_s]; rfl) dJ7_fill_53178_13 (fun H locs hP hD hS => ?_)
      refine lv_iinc (v := nI (j + 1)) (lv' := [(2, .int (nI (j + 1))), (3, .int (nI n0)), (0, .ref a), (1, .int v)]) hx hb dJ7_fill_53178_14 hl (k := 0) rfl (nI_succ _).symm (by decide) rfl (fun ls hl => ?_)
      refine lv_goto (tgt := 5) hx hb dJ7_fill_53178_17 (by decide) ?_
      exact ih (j + 1) (by omega) _ _ hP hD hS _ (lv_sub hl [0, 1, 2, 3] rfl)
  exact lp0 n0 0 (by omega) _ _ (P_eq (by rw [fill_0]) hP) (D_fst rfl hD) hS _ (lv_sub hl [1, 0, 2, 3] rfl)

set_option maxHeartbeats 4000000 in
set_option maxRecDepth 100000 in
theorem mX0_init (l : Launch) (D : va_G) (cI cC cT cL : ClassId) (h0 : Nat) : MN l yX0_init wsX0_init ({ frames := 2, cells := 14, slots := 51, locals := 43 } : Room) D (TY cI cC cT cL) [.ref h0] ([(h0, .inr (0, [.null, .null, .null, .null, .int 0, .int 0, .int 0, .int 0, .int 0]))]) (fun w => ∃ A : Nat → Nat, A 0 = h0 ∧ w = CW cI cC cT A 0 0 (fun _ => 0) (fun _ => 20)) 14 51 := by
  refine MN_of (cc := cX0_init) (maxL := 2) (ret := none) (by decide +kernel) rfl (Nat.le_of_ble_eq_true rfl) ?_
  intro p e s m args below meth c A0 B ls hl
  obtain ⟨hx, hb, hml, hr, hown, hts, hlocks, hK, hP, hD, hA, hST, hnm⟩ := B
  have hown : s.vm.findClass RX0 = some m.cls := hown
  have hS : va_S A0 s.heap s.heap [] := va_S.rf
  have hl : lv_has ls 2 [(0, .ref h0)] := hl
  obtain ⟨-, -, -, -, -, -, -, -, ⟨tS, hZ1, hT1⟩, ⟨tM, hZ2, hT2⟩, hAO1, hAO2⟩ := id hST
  refine lv_aload_n hx hb dX0_init_0 rfl (lv_at hl 0 rfl) ?_
  refine W.objInit hx hb hown (hts _ oiX0_init) (hts _ ojX0_init) (hts _ okX0_init) rfl (by rw [hml]; exact hl.1) rfl dX0_init_1 (Nat.le_of_ble_eq_true rfl) (Nat.le_of_ble_eq_true rfl) ?_
  refine W.eq (g2 := F0 m 4 ls []) rfl ?_
  refine lv_aload_n hx hb dX0_init_4 rfl (lv_at hl 0 rfl) ?_
  refine va_getsN hx hb hZ1 hS hown (va_Nw.use rfl (hST.1 _ (List.mem_of_getElem? (i := 18) rfl))) (fun _ h9 => h9) dX0_init_5 ?_
  refine va_tlen hx hb hT1 hS (v := nI 4) rfl dX0_init_8 ?_
  refine w_newi hx hb (hts _ acX0_init_int) hK hP hD hS hA rfl 4 rfl (by decide) (Nat.le_of_ble_eq_true rfl) (Nat.le_of_ble_eq_true rfl) dX0_init_9 (fun q1 H hP hD hS => ?_)
  have hP : va_P D vwCl ([(h0, .inr (0, [.null, .null, .null, .null, .int 0, .int 0, .int 0, .int 0, .int 0])), (q1, .inl (cI, 4, .inl (fun _ => 0)))]) H := hP
  have hD : va_D A0 ([(h0, .inr (0, [.null, .null, .null, .null, .int 0, .int 0, .int 0, .int 0, .int 0])), (q1, .inl (cI, 4, .inl (fun _ => 0)))]) := hD
  refine w_putF (C := RX0) hx hb hts iX0_init_X0 tyX0_ok nmX0 hown hK hP hD hS 0 rfl rfl 0 (by decide) fX0_init_13 rfl rfl hnm rfl rfl rfl (Nat.le_of_ble_eq_true rfl) (ws' := [(h0, .inr (0, [.ref q1, .null, .null, .null, .int 0, .int 0, .int 0, .int 0, .int 0])), (q1, .inl (cI, 4, .inl (fun _ => 0)))]) rfl dX0_init_11 (fun H locs hP hD hS => ?_)
  refine lv_aload_n hx hb dX0_init_14 rfl (lv_at hl 0 rfl) ?_
  refine lv_bipush (v := 7) hx hb dX0_init_15 (by decide) ?_
  refine w_newi hx hb (hts _ acX0_init_int) hK hP hD hS hA rfl 7 rfl (by decide) (Nat.le_of_ble_eq_true rfl) (Nat.le_of_ble_eq_true rfl) dX0_init_17 (fun q2 H hP hD hS => ?_)
  have hP : va_P D vwCl ([(h0, .inr (0, [.ref q1, .null, .null, .null, .int 0, .int 0, .int 0, .int 0, .int 0])), (q1, .inl (cI, 4, .inl (fun _ => 0))), (q2, .inl (cI, 7, .inl (fun _ => 0)))]) H := hP
  have hD : va_D A0 ([(h0, .inr (0, [.ref q1, .null, .null, .null, .int 0, .int 0, .int 0, .int 0, .int 0])), (q1, .inl (cI, 4, .inl (fun _ => 0))), (q2, .inl (cI, 7, .inl (fun _ => 0)))]) := hD
  refine w_putF (C := RX0) hx hb hts iX0_init_X0 tyX0_ok nmX0 hown hK hP hD hS 0 rfl rfl 1 (by decide) fX0_init_18 rfl rfl hnm rfl rfl rfl (Nat.le_of_ble_eq_true rfl) (ws' := [(h0, .inr (0, [.ref q1, .ref q2, .null, .null, .int 0, .int 0, .int 0, .int 0, .int 0])), (q1, .inl (cI, 4, .inl (fun _ => 0))), (q2, .inl (cI, 7, .inl (fun _ => 0)))]) rfl dX0_init_19 (fun H locs hP hD hS => ?_)
  refine lv_aload_n hx hb dX0_init_22 rfl (lv_at hl 0 rfl) ?_
  refine lv_iconst (v := 4) hx hb dX0_init_23 (by decide) ?_
  refine w_newq hx hb hown (hts _ clX0_init_21) hAO1 hK hP hD hS hA 1 rfl 4 rfl (by decide) (Nat.le_of_ble_eq_true rfl) (Nat.le_of_ble_eq_true rfl) dX0_init_24 (fun q3 H hP hD hS => ?_)
  have hP : va_P D vwCl ([(h0, .inr (0, [.ref q1, .ref q2, .null, .null, .int 0, .int 0, .int 0, .int 0, .int 0])), (q1, .inl (cI, 4, .inl (fun _ => 0))), (q2, .inl (cI, 7, .inl (fun _ => 0))), (q3, .inl (cC, 4, .inr (.inr (.inr (.inr (fun _ => none))))))]) H := hP
  have hD : va_D A0 ([(h0, .inr (0, [.ref q1, .ref q2, .null, .null, .int 0, .int 0, .int 0, .int 0, .int 0])), (q1, .inl (cI, 4, .inl (fun _ => 0))), (q2, .inl (cI, 7, .inl (fun _ => 0))), (q3, .inl (cC, 4, .inr (.inr (.inr (.inr (fun _ => none))))))]) := hD
  refine w_putF (C := RX0) hx hb hts iX0_init_X0 tyX0_ok nmX0 hown hK hP hD hS 0 rfl rfl 2 (by decide) fX0_init_23 rfl rfl hnm rfl rfl rfl (Nat.le_of_ble_eq_true rfl) (ws' := [(h0, .inr (0, [.ref q1, .ref q2, .ref q3, .null, .int 0, .int 0, .int 0, .int 0, .int 0])), (q1, .inl (cI, 4, .inl (fun _ => 0))), (q2, .inl (cI, 7, .inl (fun _ => 0))), (q3, .inl (cC, 4, .inr (.inr (.inr (.inr (fun _ => none))))))]) rfl dX0_init_27 (fun H locs hP hD hS => ?_)
  refine lv_aload_n hx hb dX0_init_30 rfl (lv_at hl 0 rfl) ?_
  refine lv_bipush (v := 6) hx hb dX0_init_31 (by decide) ?_
  refine w_newq hx hb hown (hts _ clX0_init_27) hAO2 hK hP hD hS hA 2 rfl 6 rfl (by decide) (Nat.le_of_ble_eq_true rfl) (Nat.le_of_ble_eq_true rfl) dX0_init_33 (fun q4 H hP hD hS => ?_)
  have hP : va_P D vwCl ([(h0, .inr (0, [.ref q1, .ref q2, .ref q3, .null, .int 0, .int 0, .int 0, .int 0, .int 0])), (q1, .inl (cI, 4, .inl (fun _ => 0))), (q2, .inl (cI, 7, .inl (fun _ => 0))), (q3, .inl (cC, 4, .inr (.inr (.inr (.inr (fun _ => none)))))), (q4, .inl (cT, 6, .inr (.inr (.inr (.inr (fun _ => none))))))]) H := hP
  have hD : va_D A0 ([(h0, .inr (0, [.ref q1, .ref q2, .ref q3, .null, .int 0, .int 0, .int 0, .int 0, .int 0])), (q1, .inl (cI, 4, .inl (fun _ => 0))), (q2, .inl (cI, 7, .inl (fun _ => 0))), (q3, .inl (cC, 4, .inr (.inr (.inr (.inr (fun _ => none)))))), (q4, .inl (cT, 6, .inr (.inr (.inr (.inr (fun _ => none))))))]) := hD
  refine w_putF (C := RX0) hx hb hts iX0_init_X0 tyX0_ok nmX0 hown hK hP hD hS 0 rfl rfl 3 (by decide) fX0_init_29 rfl rfl hnm rfl rfl rfl (Nat.le_of_ble_eq_true rfl) (ws' := [(h0, .inr (0, [.ref q1, .ref q2, .ref q3, .ref q4, .int 0, .int 0, .int 0, .int 0, .int 0])), (q1, .inl (cI, 4, .inl (fun _ => 0))), (q2, .inl (cI, 7, .inl (fun _ => 0))), (q3, .inl (cC, 4, .inr (.inr (.inr (.inr (fun _ => none)))))), (q4, .inl (cT, 6, .inr (.inr (.inr (.inr (fun _ => none))))))]) rfl dX0_init_36 (fun H locs hP hD hS => ?_)
  refine lv_aload_n hx hb dX0_init_39 rfl (lv_at hl 0 rfl) ?_
  refine w_get hx hb hts iX0_init_X0 hown hK hP 0 rfl rfl 1 (by decide) fX0_init_18 rfl rfl dX0_init_40 ?_
  refine lv_bipush (v := 20) hx hb dX0_init_43 (by decide) ?_
  refine c0_S (As := [.ref q2, .int 20]) (rest := []) ⟨hx, hb, hml, hown, hts⟩ (mJ7_fill_53178 l D cI cC cT cL q2 7 (fun _ => 0) 20 (by decide)) (va_cwS 2 hts gX0_init_J7_fill_53178 rfl rfl rfl pJ7_fill_53178 ⟨Nat.le_of_ble_eq_true rfl, Nat.le_of_ble_eq_true rfl⟩) hK hP hD hS hA hST (Jn_set 2 q2 _ _ rfl) rfl hl.1 rfl (Nat.le_of_ble_eq_true rfl) dX0_init_45 ⟨Nat.le_of_ble_eq_true rfl, Nat.le_of_ble_eq_true rfl⟩ rfl (fun H locs hP hD hS => ?_)
  refine lv_iconst (v := 0) hx hb dX0_init_48 (by decide) ?_
  refine lv_istore_n (lv' := [(1, .int 0), (0, .ref h0)]) hx hb dX0_init_49 rfl hl (by decide) rfl (fun ls hl => ?_)
  refine lv_iload_n hx hb dX0_init_50 rfl (lv_at hl 0 rfl) ?_
  refine lv_iconst (v := 4) hx hb dX0_init_51 (by decide) ?_
  refine lv_icmp_ge (tgt := 74) hx hb dX0_init_52 (by decide) (fun c_52 => ?_) (fun c_52 => ?_)
  · exact absurd c_52 (by decide)
  refine lv_aload_n hx hb dX0_init_55 rfl (lv_at hl 1 rfl) ?_
  refine w_get hx hb hts iX0_init_X0 hown hK hP 0 rfl rfl 2 (by decide) fX0_init_23 rfl rfl dX0_init_56 ?_
  refine lv_iload_n hx hb dX0_init_59 rfl (lv_at hl 0 rfl) ?_
  refine w_new (ci := 1) (fs := [.int 0, .int 0, .int 0]) hx hb hts iX0_init_X1 tyX1_ok hown clX0_init_21 itX0_init_X1 inX0_init_X1 hK hP hD hS hA rfl (fun j hj => by rcases (show j = 0 ∨ j = 1 ∨ j = 2 by omega) with rfl | rfl | rfl <;> rfl) (Nat.le_of_ble_eq_true rfl) (Nat.le_of_ble_eq_true rfl) dX0_init_60 (fun q5 H hP hD hS => ?_)
  have hP : va_P D vwCl ([(h0, .inr (0, [.ref q1, .ref q2, .ref q3, .ref q4, .int 0, .int 0, .int 0, .int 0, .int 0])), (q1, .inl (cI, 4, .inl (fun _ => 0))), (q2, .inl (cI, 7, .inl (fillN (fun _ => 0) 20 7))), (q3, .inl (cC, 4, .inr (.inr (.inr (.inr (fun _ => none)))))), (q4, .inl (cT, 6, .inr (.inr (.inr (.inr (fun _ => none)))))), (q5, .inr (1, [.int 0, .int 0, .int 0]))]) H := hP
  have hD : va_D A0 ([(h0, .inr (0, [.ref q1, .ref q2, .ref q3, .ref q4, .int 0, .int 0, .int 0, .int 0, .int 0])), (q1, .inl (cI, 4, .inl (fun _ => 0))), (q2, .inl (cI, 7, .inl (fillN (fun _ => 0) 20 7))), (q3, .inl (cC, 4, .inr (.inr (.inr (.inr (fun _ => none)))))), (q4, .inl (cT, 6, .inr (.inr (.inr (.inr (fun _ => none)))))), (q5, .inr (1, [.int 0, .int 0, .int 0]))]) := hD
  refine lv_dup hx hb dX0_init_63 rfl ?_
  refine c0_IN (As := []) (rest := [.ref q5, .int 0, .ref q3]) (ws' := [(h0, .inr (0, [.ref q1, .ref q2, .ref q3, .ref q4, .int 0, .int 0, .int 0, .int 0, .int 0])), (q1, .inl (cI, 4, .inl (fun _ => 0))), (q2, .inl (cI, 7, .inl (fillN (fun _ => 0) 20 7))), (q3, .inl (cC, 4, .inr (.inr (.inr (.inr (fun _ => none)))))), (q4, .inl (cT, 6, .inr (.inr (.inr (.inr (fun _ => none)))))), (q5, .inr (1, [.int 0, .int 0, .int 0]))]) ⟨hx, hb, hml, hown, hts⟩ (mX1_init l D cI cC cT cL q5 0 0 0) ⟨va_cnB 0 hts gX0_init_X1_init_n39 rfl rfl rfl (hST.2.1 _ (List.mem_of_getElem? (i := 0) rfl)) (hts _ inX0_init_X1) pX1_init ⟨Nat.le_of_ble_eq_true rfl, Nat.le_of_ble_eq_true rfl⟩, rfl, hts _ imX0_init_X1_init⟩ hK hP hD hS hA hST (Jn_set 5 q5 _ _ rfl) rfl hl.1 rfl (Nat.le_of_ble_eq_true rfl) dX0_init_64 ⟨Nat.le_of_ble_eq_true rfl, Nat.le_of_ble_eq_true rfl⟩ rfl (fun H locs hP hD hS => ?_)
  refine w_qst hx hb hK hP hD hS 3 1 5 1 rfl rfl rfl rfl 0 rfl (by decide) (by decide) (ws' := [(h0, .inr (0, [.ref q1, .ref q2, .ref q3, .ref q4, .int 0, .int 0, .int 0, .int 0, .int 0])), (q1, .inl (cI, 4, .inl (fun _ => 0))), (q2, .inl (cI, 7, .inl (fillN (fun _ => 0) 20 7))), (q3, .inl (cC, 4, .inr (.inr (.inr (.inr (va_up (fun _ => none) 0 (some q5))))))), (q4, .inl (cT, 6, .inr (.inr (.inr (.inr (fun _ => none)))))), (q5, .inr (1, [.int 0, .int 0, .int 0]))]) rfl dX0_init_67 (fun H locs hP hD hS => ?_)
  refine lv_iinc (v := 1) (lv' := [(1, .int 1), (0, .ref h0)]) hx hb dX0_init_68 hl (k := 0) rfl (by decide) (by decide) rfl (fun ls hl => ?_)
  refine lv_goto (tgt := 50) hx hb dX0_init_71 (by decide) ?_
  refine lv_iload_n hx hb dX0_init_50 rfl (lv_at hl 0 rfl) ?_
  refine lv_iconst (v := 4) hx hb dX0_init_51 (by decide) ?_
  refine lv_icmp_ge (tgt := 74) hx hb dX0_init_52 (by decide) (fun c_52 => ?_) (fun c_52 => ?_)
  · exact absurd c_52 (by decide)
  refine lv_aload_n hx hb dX0_init_55 rfl (lv_at hl 1 rfl) ?_
  refine w_get hx hb hts iX0_init_X0 hown hK hP 0 rfl rfl 2 (by decide) fX0_init_23 rfl rfl dX0_init_56 ?_
  refine lv_iload_n hx hb dX0_init_59 rfl (lv_at hl 0 rfl) ?_
  refine w_new (ci := 1) (fs := [.int 0, .int 0, .int 0]) hx hb hts iX0_init_X1 tyX1_ok hown clX0_init_21 itX0_init_X1 inX0_init_X1 hK hP hD hS hA rfl (fun j hj => by rcases (show j = 0 ∨ j = 1 ∨ j = 2 by omega) with rfl | rfl | rfl <;> rfl) (Nat.le_of_ble_eq_true rfl) (Nat.le_of_ble_eq_true rfl) dX0_init_60 (fun q6 H hP hD hS => ?_)
  have hP : va_P D vwCl ([(h0, .inr (0, [.ref q1, .ref q2, .ref q3, .ref q4, .int 0, .int 0, .int 0, .int 0, .int 0])), (q1, .inl (cI, 4, .inl (fun _ => 0))), (q2, .inl (cI, 7, .inl (fillN (fun _ => 0) 20 7))), (q3, .inl (cC, 4, .inr (.inr (.inr (.inr (va_up (fun _ => none) 0 (some q5))))))), (q4, .inl (cT, 6, .inr (.inr (.inr (.inr (fun _ => none)))))), (q5, .inr (1, [.int 0, .int 0, .int 0])), (q6, .inr (1, [.int 0, .int 0, .int 0]))]) H := hP
  have hD : va_D A0 ([(h0, .inr (0, [.ref q1, .ref q2, .ref q3, .ref q4, .int 0, .int 0, .int 0, .int 0, .int 0])), (q1, .inl (cI, 4, .inl (fun _ => 0))), (q2, .inl (cI, 7, .inl (fillN (fun _ => 0) 20 7))), (q3, .inl (cC, 4, .inr (.inr (.inr (.inr (va_up (fun _ => none) 0 (some q5))))))), (q4, .inl (cT, 6, .inr (.inr (.inr (.inr (fun _ => none)))))), (q5, .inr (1, [.int 0, .int 0, .int 0])), (q6, .inr (1, [.int 0, .int 0, .int 0]))]) := hD
  refine lv_dup hx hb dX0_init_63 rfl ?_
  refine c0_IN (As := []) (rest := [.ref q6, .int 1, .ref q3]) (ws' := [(h0, .inr (0, [.ref q1, .ref q2, .ref q3, .ref q4, .int 0, .int 0, .int 0, .int 0, .int 0])), (q1, .inl (cI, 4, .inl (fun _ => 0))), (q2, .inl (cI, 7, .inl (fillN (fun _ => 0) 20 7))), (q3, .inl (cC, 4, .inr (.inr (.inr (.inr (va_up (fun _ => none) 0 (some q5))))))), (q4, .inl (cT, 6, .inr (.inr (.inr (.inr (fun _ => none)))))), (q5, .inr (1, [.int 0, .int 0, .int 0])), (q6, .inr (1, [.int 0, .int 0, .int 0]))]) ⟨hx, hb, hml, hown, hts⟩ (mX1_init l D cI cC cT cL q6 0 0 0) ⟨va_cnB 0 hts gX0_init_X1_init_n39 rfl rfl rfl (hST.2.1 _ (List.mem_of_getElem? (i := 0) rfl)) (hts _ inX0_init_X1) pX1_init ⟨Nat.le_of_ble_eq_true rfl, Nat.le_of_ble_eq_true rfl⟩, rfl, hts _ imX0_init_X1_init⟩ hK hP hD hS hA hST (Jn_set 6 q6 _ _ rfl) rfl hl.1 rfl (Nat.le_of_ble_eq_true rfl) dX0_init_64 ⟨Nat.le_of_ble_eq_true rfl, Nat.le_of_ble_eq_true rfl⟩ rfl (fun H locs hP hD hS => ?_)
  refine w_qst hx hb hK hP hD hS 3 1 6 1 rfl rfl rfl rfl 1 rfl (by decide) (by decide) (ws' := [(h0, .inr (0, [.ref q1, .ref q2, .ref q3, .ref q4, .int 0, .int 0, .int 0, .int 0, .int 0])), (q1, .inl (cI, 4, .inl (fun _ => 0))), (q2, .inl (cI, 7, .inl (fillN (fun _ => 0) 20 7))), (q3, .inl (cC, 4, .inr (.inr (.inr (.inr (va_up (va_up (fun _ => none) 0 (some q5)) 1 (some q6))))))), (q4, .inl (cT, 6, .inr (.inr (.inr (.inr (fun _ => none)))))), (q5, .inr (1, [.int 0, .int 0, .int 0])), (q6, .inr (1, [.int 0, .int 0, .int 0]))]) rfl dX0_init_67 (fun H locs hP hD hS => ?_)
  refine lv_iinc (v := 2) (lv' := [(1, .int 2), (0, .ref h0)]) hx hb dX0_init_68 hl (k := 0) rfl (by decide) (by decide) rfl (fun ls hl => ?_)
  refine lv_goto (tgt := 50) hx hb dX0_init_71 (by decide) ?_
  refine lv_iload_n hx hb dX0_init_50 rfl (lv_at hl 0 rfl) ?_
  refine lv_iconst (v := 4) hx hb dX0_init_51 (by decide) ?_
  refine lv_icmp_ge (tgt := 74) hx hb dX0_init_52 (by decide) (fun c_52 => ?_) (fun c_52 => ?_)
  · exact absurd c_52 (by decide)
  refine lv_aload_n hx hb dX0_init_55 rfl (lv_at hl 1 rfl) ?_
  refine w_get hx hb hts iX0_init_X0 hown hK hP 0 rfl rfl 2 (by decide) fX0_init_23 rfl rfl dX0_init_56 ?_
  refine lv_iload_n hx hb dX0_init_59 rfl (lv_at hl 0 rfl) ?_
  refine w_new (ci := 1) (fs := [.int 0, .int 0, .int 0]) hx hb hts iX0_init_X1 tyX1_ok hown clX0_init_21 itX0_init_X1 inX0_init_X1 hK hP hD hS hA rfl (fun j hj => by rcases (show j = 0 ∨ j = 1 ∨ j = 2 by omega) with rfl | rfl | rfl <;> rfl) (Nat.le_of_ble_eq_true rfl) (Nat.le_of_ble_eq_true rfl) dX0_init_60 (fun q7 H hP hD hS => ?_)
  have hP : va_P D vwCl ([(h0, .inr (0, [.ref q1, .ref q2, .ref q3, .ref q4, .int 0, .int 0, .int 0, .int 0, .int 0])), (q1, .inl (cI, 4, .inl (fun _ => 0))), (q2, .inl (cI, 7, .inl (fillN (fun _ => 0) 20 7))), (q3, .inl (cC, 4, .inr (.inr (.inr (.inr (va_up (va_up (fun _ => none) 0 (some q5)) 1 (some q6))))))), (q4, .inl (cT, 6, .inr (.inr (.inr (.inr (fun _ => none)))))), (q5, .inr (1, [.int 0, .int 0, .int 0])), (q6, .inr (1, [.int 0, .int 0, .int 0])), (q7, .inr (1, [.int 0, .int 0, .int 0]))]) H := hP
  have hD : va_D A0 ([(h0, .inr (0, [.ref q1, .ref q2, .ref q3, .ref q4, .int 0, .int 0, .int 0, .int 0, .int 0])), (q1, .inl (cI, 4, .inl (fun _ => 0))), (q2, .inl (cI, 7, .inl (fillN (fun _ => 0) 20 7))), (q3, .inl (cC, 4, .inr (.inr (.inr (.inr (va_up (va_up (fun _ => none) 0 (some q5)) 1 (some q6))))))), (q4, .inl (cT, 6, .inr (.inr (.inr (.inr (fun _ => none)))))), (q5, .inr (1, [.int 0, .int 0, .int 0])), (q6, .inr (1, [.int 0, .int 0, .int 0])), (q7, .inr (1, [.int 0, .int 0, .int 0]))]) := hD
  refine lv_dup hx hb dX0_init_63 rfl ?_
  refine c0_IN (As := []) (rest := [.ref q7, .int 2, .ref q3]) (ws' := [(h0, .inr (0, [.ref q1, .ref q2, .ref q3, .ref q4, .int 0, .int 0, .int 0, .int 0, .int 0])), (q1, .inl (cI, 4, .inl (fun _ => 0))), (q2, .inl (cI, 7, .inl (fillN (fun _ => 0) 20 7))), (q3, .inl (cC, 4, .inr (.inr (.inr (.inr (va_up (va_up (fun _ => none) 0 (some q5)) 1 (some q6))))))), (q4, .inl (cT, 6, .inr (.inr (.inr (.inr (fun _ => none)))))), (q5, .inr (1, [.int 0, .int 0, .int 0])), (q6, .inr (1, [.int 0, .int 0, .int 0])), (q7, .inr (1, [.int 0, .int 0, .int 0]))]) ⟨hx, hb, hml, hown, hts⟩ (mX1_init l D cI cC cT cL q7 0 0 0) ⟨va_cnB 0 hts gX0_init_X1_init_n39 rfl rfl rfl (hST.2.1 _ (List.mem_of_getElem? (i := 0) rfl)) (hts _ inX0_init_X1) pX1_init ⟨Nat.le_of_ble_eq_true rfl, Nat.le_of_ble_eq_true rfl⟩, rfl, hts _ imX0_init_X1_init⟩ hK hP hD hS hA hST (Jn_set 7 q7 _ _ rfl) rfl hl.1 rfl (Nat.le_of_ble_eq_true rfl) dX0_init_64 ⟨Nat.le_of_ble_eq_true rfl, Nat.le_of_ble_eq_true rfl⟩ rfl (fun H locs hP hD hS => ?_)
  refine w_qst hx hb hK hP hD hS 3 1 7 1 rfl rfl rfl rfl 2 rfl (by decide) (by decide) (ws' := [(h0, .inr (0, [.ref q1, .ref q2, .ref q3, .ref q4, .int 0, .int 0, .int 0, .int 0, .int 0])), (q1, .inl (cI, 4, .inl (fun _ => 0))), (q2, .inl (cI, 7, .inl (fillN (fun _ => 0) 20 7))), (q3, .inl (cC, 4, .inr (.inr (.inr (.inr (va_up (va_up (va_up (fun _ => none) 0 (some q5)) 1 (some q6)) 2 (some q7))))))), (q4, .inl (cT, 6, .inr (.inr (.inr (.inr (fun _ => none)))))), (q5, .inr (1, [.int 0, .int 0, .int 0])), (q6, .inr (1, [.int 0, .int 0, .int 0])), (q7, .inr (1, [.int 0, .int 0, .int 0]))]) rfl dX0_init_67 (fun H locs hP hD hS => ?_)
  refine lv_iinc (v := 3) (lv' := [(1, .int 3), (0, .ref h0)]) hx hb dX0_init_68 hl (k := 0) rfl (by decide) (by decide) rfl (fun ls hl => ?_)
  refine lv_goto (tgt := 50) hx hb dX0_init_71 (by decide) ?_
  refine lv_iload_n hx hb dX0_init_50 rfl (lv_at hl 0 rfl) ?_
  refine lv_iconst (v := 4) hx hb dX0_init_51 (by decide) ?_
  refine lv_icmp_ge (tgt := 74) hx hb dX0_init_52 (by decide) (fun c_52 => ?_) (fun c_52 => ?_)
  · exact absurd c_52 (by decide)
  refine lv_aload_n hx hb dX0_init_55 rfl (lv_at hl 1 rfl) ?_
  refine w_get hx hb hts iX0_init_X0 hown hK hP 0 rfl rfl 2 (by decide) fX0_init_23 rfl rfl dX0_init_56 ?_
  refine lv_iload_n hx hb dX0_init_59 rfl (lv_at hl 0 rfl) ?_
  refine w_new (ci := 1) (fs := [.int 0, .int 0, .int 0]) hx hb hts iX0_init_X1 tyX1_ok hown clX0_init_21 itX0_init_X1 inX0_init_X1 hK hP hD hS hA rfl (fun j hj => by rcases (show j = 0 ∨ j = 1 ∨ j = 2 by omega) with rfl | rfl | rfl <;> rfl) (Nat.le_of_ble_eq_true rfl) (Nat.le_of_ble_eq_true rfl) dX0_init_60 (fun q8 H hP hD hS => ?_)
  have hP : va_P D vwCl ([(h0, .inr (0, [.ref q1, .ref q2, .ref q3, .ref q4, .int 0, .int 0, .int 0, .int 0, .int 0])), (q1, .inl (cI, 4, .inl (fun _ => 0))), (q2, .inl (cI, 7, .inl (fillN (fun _ => 0) 20 7))), (q3, .inl (cC, 4, .inr (.inr (.inr (.inr (va_up (va_up (va_up (fun _ => none) 0 (some q5)) 1 (some q6)) 2 (some q7))))))), (q4, .inl (cT, 6, .inr (.inr (.inr (.inr (fun _ => none)))))), (q5, .inr (1, [.int 0, .int 0, .int 0])), (q6, .inr (1, [.int 0, .int 0, .int 0])), (q7, .inr (1, [.int 0, .int 0, .int 0])), (q8, .inr (1, [.int 0, .int 0, .int 0]))]) H := hP
  have hD : va_D A0 ([(h0, .inr (0, [.ref q1, .ref q2, .ref q3, .ref q4, .int 0, .int 0, .int 0, .int 0, .int 0])), (q1, .inl (cI, 4, .inl (fun _ => 0))), (q2, .inl (cI, 7, .inl (fillN (fun _ => 0) 20 7))), (q3, .inl (cC, 4, .inr (.inr (.inr (.inr (va_up (va_up (va_up (fun _ => none) 0 (some q5)) 1 (some q6)) 2 (some q7))))))), (q4, .inl (cT, 6, .inr (.inr (.inr (.inr (fun _ => none)))))), (q5, .inr (1, [.int 0, .int 0, .int 0])), (q6, .inr (1, [.int 0, .int 0, .int 0])), (q7, .inr (1, [.int 0, .int 0, .int 0])), (q8, .inr (1, [.int 0, .int 0, .int 0]))]) := hD
  refine lv_dup hx hb dX0_init_63 rfl ?_
  refine c0_IN (As := []) (rest := [.ref q8, .int 3, .ref q3]) (ws' := [(h0, .inr (0, [.ref q1, .ref q2, .ref q3, .ref q4, .int 0, .int 0, .int 0, .int 0, .int 0])), (q1, .inl (cI, 4, .inl (fun _ => 0))), (q2, .inl (cI, 7, .inl (fillN (fun _ => 0) 20 7))), (q3, .inl (cC, 4, .inr (.inr (.inr (.inr (va_up (va_up (va_up (fun _ => none) 0 (some q5)) 1 (some q6)) 2 (some q7))))))), (q4, .inl (cT, 6, .inr (.inr (.inr (.inr (fun _ => none)))))), (q5, .inr (1, [.int 0, .int 0, .int 0])), (q6, .inr (1, [.int 0, .int 0, .int 0])), (q7, .inr (1, [.int 0, .int 0, .int 0])), (q8, .inr (1, [.int 0, .int 0, .int 0]))]) ⟨hx, hb, hml, hown, hts⟩ (mX1_init l D cI cC cT cL q8 0 0 0) ⟨va_cnB 0 hts gX0_init_X1_init_n39 rfl rfl rfl (hST.2.1 _ (List.mem_of_getElem? (i := 0) rfl)) (hts _ inX0_init_X1) pX1_init ⟨Nat.le_of_ble_eq_true rfl, Nat.le_of_ble_eq_true rfl⟩, rfl, hts _ imX0_init_X1_init⟩ hK hP hD hS hA hST (Jn_set 8 q8 _ _ rfl) rfl hl.1 rfl (Nat.le_of_ble_eq_true rfl) dX0_init_64 ⟨Nat.le_of_ble_eq_true rfl, Nat.le_of_ble_eq_true rfl⟩ rfl (fun H locs hP hD hS => ?_)
  refine w_qst hx hb hK hP hD hS 3 1 8 1 rfl rfl rfl rfl 3 rfl (by decide) (by decide) (ws' := [(h0, .inr (0, [.ref q1, .ref q2, .ref q3, .ref q4, .int 0, .int 0, .int 0, .int 0, .int 0])), (q1, .inl (cI, 4, .inl (fun _ => 0))), (q2, .inl (cI, 7, .inl (fillN (fun _ => 0) 20 7))), (q3, .inl (cC, 4, .inr (.inr (.inr (.inr (va_up (va_up (va_up (va_up (fun _ => none) 0 (some q5)) 1 (some q6)) 2 (some q7)) 3 (some q8))))))), (q4, .inl (cT, 6, .inr (.inr (.inr (.inr (fun _ => none)))))), (q5, .inr (1, [.int 0, .int 0, .int 0])), (q6, .inr (1, [.int 0, .int 0, .int 0])), (q7, .inr (1, [.int 0, .int 0, .int 0])), (q8, .inr (1, [.int 0, .int 0, .int 0]))]) rfl dX0_init_67 (fun H locs hP hD hS => ?_)
  refine lv_iinc (v := 4) (lv' := [(1, .int 4), (0, .ref h0)]) hx hb dX0_init_68 hl (k := 0) rfl (by decide) (by decide) rfl (fun ls hl => ?_)
  refine lv_goto (tgt := 50) hx hb dX0_init_71 (by decide) ?_
  refine lv_iload_n hx hb dX0_init_50 rfl (lv_at hl 0 rfl) ?_
  refine lv_iconst (v := 4) hx hb dX0_init_51 (by decide) ?_
  refine lv_icmp_ge (tgt := 74) hx hb dX0_init_52 (by decide) (fun c_52 => ?_) (fun c_52 => ?_)
  rotate_left
  · exact absurd (by decide) c_52
  refine lv_iconst (v := 0) hx hb dX0_init_74 (by decide) ?_
  refine lv_istore_n (lv' := [(1, .int 0), (0, .ref h0)]) hx hb dX0_init_75 rfl hl (by decide) rfl (fun ls hl => ?_)
  refine lv_iload_n hx hb dX0_init_76 rfl (lv_at hl 0 rfl) ?_
  refine lv_bipush (v := 6) hx hb dX0_init_77 (by decide) ?_
  refine lv_icmp_ge (tgt := 101) hx hb dX0_init_79 (by decide) (fun c_79 => ?_) (fun c_79 => ?_)
  · exact absurd c_79 (by decide)
  refine lv_aload_n hx hb dX0_init_82 rfl (lv_at hl 1 rfl) ?_
  refine w_get hx hb hts iX0_init_X0 hown hK hP 0 rfl rfl 3 (by decide) fX0_init_29 rfl rfl dX0_init_83 ?_
  refine lv_iload_n hx hb dX0_init_86 rfl (lv_at hl 0 rfl) ?_
  refine w_new (ci := 2) (fs := [.int 0, .int 0, .int 0]) hx hb hts iX0_init_X2 tyX2_ok hown clX0_init_27 itX0_init_X2 inX0_init_X2 hK hP hD hS hA rfl (fun j hj => by rcases (show j = 0 ∨ j = 1 ∨ j = 2 by omega) with rfl | rfl | rfl <;> rfl) (Nat.le_of_ble_eq_true rfl) (Nat.le_of_ble_eq_true rfl) dX0_init_87 (fun q9 H hP hD hS => ?_)
  have hP : va_P D vwCl ([(h0, .inr (0, [.ref q1, .ref q2, .ref q3, .ref q4, .int 0, .int 0, .int 0, .int 0, .int 0])), (q1, .inl (cI, 4, .inl (fun _ => 0))), (q2, .inl (cI, 7, .inl (fillN (fun _ => 0) 20 7))), (q3, .inl (cC, 4, .inr (.inr (.inr (.inr (va_up (va_up (va_up (va_up (fun _ => none) 0 (some q5)) 1 (some q6)) 2 (some q7)) 3 (some q8))))))), (q4, .inl (cT, 6, .inr (.inr (.inr (.inr (fun _ => none)))))), (q5, .inr (1, [.int 0, .int 0, .int 0])), (q6, .inr (1, [.int 0, .int 0, .int 0])), (q7, .inr (1, [.int 0, .int 0, .int 0])), (q8, .inr (1, [.int 0, .int 0, .int 0])), (q9, .inr (2, [.int 0, .int 0, .int 0]))]) H := hP
  have hD : va_D A0 ([(h0, .inr (0, [.ref q1, .ref q2, .ref q3, .ref q4, .int 0, .int 0, .int 0, .int 0, .int 0])), (q1, .inl (cI, 4, .inl (fun _ => 0))), (q2, .inl (cI, 7, .inl (fillN (fun _ => 0) 20 7))), (q3, .inl (cC, 4, .inr (.inr (.inr (.inr (va_up (va_up (va_up (va_up (fun _ => none) 0 (some q5)) 1 (some q6)) 2 (some q7)) 3 (some q8))))))), (q4, .inl (cT, 6, .inr (.inr (.inr (.inr (fun _ => none)))))), (q5, .inr (1, [.int 0, .int 0, .int 0])), (q6, .inr (1, [.int 0, .int 0, .int 0])), (q7, .inr (1, [.int 0, .int 0, .int 0])), (q8, .inr (1, [.int 0, .int 0, .int 0])), (q9, .inr (2, [.int 0, .int 0, .int 0]))]) := hD
  refine lv_dup hx hb dX0_init_90 rfl ?_
  refine c0_IN (As := []) (rest := [.ref q9, .int 0, .ref q4]) (ws' := [(h0, .inr (0, [.ref q1, .ref q2, .ref q3, .ref q4, .int 0, .int 0, .int 0, .int 0, .int 0])), (q1, .inl (cI, 4, .inl (fun _ => 0))), (q2, .inl (cI, 7, .inl (fillN (fun _ => 0) 20 7))), (q3, .inl (cC, 4, .inr (.inr (.inr (.inr (va_up (va_up (va_up (va_up (fun _ => none) 0 (some q5)) 1 (some q6)) 2 (some q7)) 3 (some q8))))))), (q4, .inl (cT, 6, .inr (.inr (.inr (.inr (fun _ => none)))))), (q5, .inr (1, [.int 0, .int 0, .int 0])), (q6, .inr (1, [.int 0, .int 0, .int 0])), (q7, .inr (1, [.int 0, .int 0, .int 0])), (q8, .inr (1, [.int 0, .int 0, .int 0])), (q9, .inr (2, [.int 0, .int 0, .int 0]))]) ⟨hx, hb, hml, hown, hts⟩ (mX2_init l D cI cC cT cL q9 0 0 0) ⟨va_cnB 0 hts gX0_init_X2_init_n40 rfl rfl rfl (hST.2.1 _ (List.mem_of_getElem? (i := 1) rfl)) (hts _ inX0_init_X2) pX2_init ⟨Nat.le_of_ble_eq_true rfl, Nat.le_of_ble_eq_true rfl⟩, rfl, hts _ imX0_init_X2_init⟩ hK hP hD hS hA hST (Jn_set 9 q9 _ _ rfl) rfl hl.1 rfl (Nat.le_of_ble_eq_true rfl) dX0_init_91 ⟨Nat.le_of_ble_eq_true rfl, Nat.le_of_ble_eq_true rfl⟩ rfl (fun H locs hP hD hS => ?_)
  refine w_qst hx hb hK hP hD hS 4 2 9 2 rfl rfl rfl rfl 0 rfl (by decide) (by decide) (ws' := [(h0, .inr (0, [.ref q1, .ref q2, .ref q3, .ref q4, .int 0, .int 0, .int 0, .int 0, .int 0])), (q1, .inl (cI, 4, .inl (fun _ => 0))), (q2, .inl (cI, 7, .inl (fillN (fun _ => 0) 20 7))), (q3, .inl (cC, 4, .inr (.inr (.inr (.inr (va_up (va_up (va_up (va_up (fun _ => none) 0 (some q5)) 1 (some q6)) 2 (some q7)) 3 (some q8))))))), (q4, .inl (cT, 6, .inr (.inr (.inr (.inr (va_up (fun _ => none) 0 (some q9))))))), (q5, .inr (1, [.int 0, .int 0, .int 0])), (q6, .inr (1, [.int 0, .int 0, .int 0])), (q7, .inr (1, [.int 0, .int 0, .int 0])), (q8, .inr (1, [.int 0, .int 0, .int 0])), (q9, .inr (2, [.int 0, .int 0, .int 0]))]) rfl dX0_init_94 (fun H locs hP hD hS => ?_)
  refine lv_iinc (v := 1) (lv' := [(1, .int 1), (0, .ref h0)]) hx hb dX0_init_95 hl (k := 0) rfl (by decide) (by decide) rfl (fun ls hl => ?_)
  refine lv_goto (tgt := 76) hx hb dX0_init_98 (by decide) ?_
  refine lv_iload_n hx hb dX0_init_76 rfl (lv_at hl 0 rfl) ?_
  refine lv_bipush (v := 6) hx hb dX0_init_77 (by decide) ?_
  refine lv_icmp_ge (tgt := 101) hx hb dX0_init_79 (by decide) (fun c_79 => ?_) (fun c_79 => ?_)
  · exact absurd c_79 (by decide)
  refine lv_aload_n hx hb dX0_init_82 rfl (lv_at hl 1 rfl) ?_
  refine w_get hx hb hts iX0_init_X0 hown hK hP 0 rfl rfl 3 (by decide) fX0_init_29 rfl rfl dX0_init_83 ?_
  refine lv_iload_n hx hb dX0_init_86 rfl (lv_at hl 0 rfl) ?_
  refine w_new (ci := 2) (fs := [.int 0, .int 0, .int 0]) hx hb hts iX0_init_X2 tyX2_ok hown clX0_init_27 itX0_init_X2 inX0_init_X2 hK hP hD hS hA rfl (fun j hj => by rcases (show j = 0 ∨ j = 1 ∨ j = 2 by omega) with rfl | rfl | rfl <;> rfl) (Nat.le_of_ble_eq_true rfl) (Nat.le_of_ble_eq_true rfl) dX0_init_87 (fun q10 H hP hD hS => ?_)
  have hP : va_P D vwCl ([(h0, .inr (0, [.ref q1, .ref q2, .ref q3, .ref q4, .int 0, .int 0, .int 0, .int 0, .int 0])), (q1, .inl (cI, 4, .inl (fun _ => 0))), (q2, .inl (cI, 7, .inl (fillN (fun _ => 0) 20 7))), (q3, .inl (cC, 4, .inr (.inr (.inr (.inr (va_up (va_up (va_up (va_up (fun _ => none) 0 (some q5)) 1 (some q6)) 2 (some q7)) 3 (some q8))))))), (q4, .inl (cT, 6, .inr (.inr (.inr (.inr (va_up (fun _ => none) 0 (some q9))))))), (q5, .inr (1, [.int 0, .int 0, .int 0])), (q6, .inr (1, [.int 0, .int 0, .int 0])), (q7, .inr (1, [.int 0, .int 0, .int 0])), (q8, .inr (1, [.int 0, .int 0, .int 0])), (q9, .inr (2, [.int 0, .int 0, .int 0])), (q10, .inr (2, [.int 0, .int 0, .int 0]))]) H := hP
  have hD : va_D A0 ([(h0, .inr (0, [.ref q1, .ref q2, .ref q3, .ref q4, .int 0, .int 0, .int 0, .int 0, .int 0])), (q1, .inl (cI, 4, .inl (fun _ => 0))), (q2, .inl (cI, 7, .inl (fillN (fun _ => 0) 20 7))), (q3, .inl (cC, 4, .inr (.inr (.inr (.inr (va_up (va_up (va_up (va_up (fun _ => none) 0 (some q5)) 1 (some q6)) 2 (some q7)) 3 (some q8))))))), (q4, .inl (cT, 6, .inr (.inr (.inr (.inr (va_up (fun _ => none) 0 (some q9))))))), (q5, .inr (1, [.int 0, .int 0, .int 0])), (q6, .inr (1, [.int 0, .int 0, .int 0])), (q7, .inr (1, [.int 0, .int 0, .int 0])), (q8, .inr (1, [.int 0, .int 0, .int 0])), (q9, .inr (2, [.int 0, .int 0, .int 0])), (q10, .inr (2, [.int 0, .int 0, .int 0]))]) := hD
  refine lv_dup hx hb dX0_init_90 rfl ?_
  refine c0_IN (As := []) (rest := [.ref q10, .int 1, .ref q4]) (ws' := [(h0, .inr (0, [.ref q1, .ref q2, .ref q3, .ref q4, .int 0, .int 0, .int 0, .int 0, .int 0])), (q1, .inl (cI, 4, .inl (fun _ => 0))), (q2, .inl (cI, 7, .inl (fillN (fun _ => 0) 20 7))), (q3, .inl (cC, 4, .inr (.inr (.inr (.inr (va_up (va_up (va_up (va_up (fun _ => none) 0 (some q5)) 1 (some q6)) 2 (some q7)) 3 (some q8))))))), (q4, .inl (cT, 6, .inr (.inr (.inr (.inr (va_up (fun _ => none) 0 (some q9))))))), (q5, .inr (1, [.int 0, .int 0, .int 0])), (q6, .inr (1, [.int 0, .int 0, .int 0])), (q7, .inr (1, [.int 0, .int 0, .int 0])), (q8, .inr (1, [.int 0, .int 0, .int 0])), (q9, .inr (2, [.int 0, .int 0, .int 0])), (q10, .inr (2, [.int 0, .int 0, .int 0]))]) ⟨hx, hb, hml, hown, hts⟩ (mX2_init l D cI cC cT cL q10 0 0 0) ⟨va_cnB 0 hts gX0_init_X2_init_n40 rfl rfl rfl (hST.2.1 _ (List.mem_of_getElem? (i := 1) rfl)) (hts _ inX0_init_X2) pX2_init ⟨Nat.le_of_ble_eq_true rfl, Nat.le_of_ble_eq_true rfl⟩, rfl, hts _ imX0_init_X2_init⟩ hK hP hD hS hA hST (Jn_set 10 q10 _ _ rfl) rfl hl.1 rfl (Nat.le_of_ble_eq_true rfl) dX0_init_91 ⟨Nat.le_of_ble_eq_true rfl, Nat.le_of_ble_eq_true rfl⟩ rfl (fun H locs hP hD hS => ?_)
  refine w_qst hx hb hK hP hD hS 4 2 10 2 rfl rfl rfl rfl 1 rfl (by decide) (by decide) (ws' := [(h0, .inr (0, [.ref q1, .ref q2, .ref q3, .ref q4, .int 0, .int 0, .int 0, .int 0, .int 0])), (q1, .inl (cI, 4, .inl (fun _ => 0))), (q2, .inl (cI, 7, .inl (fillN (fun _ => 0) 20 7))), (q3, .inl (cC, 4, .inr (.inr (.inr (.inr (va_up (va_up (va_up (va_up (fun _ => none) 0 (some q5)) 1 (some q6)) 2 (some q7)) 3 (some q8))))))), (q4, .inl (cT, 6, .inr (.inr (.inr (.inr (va_up (va_up (fun _ => none) 0 (some q9)) 1 (some q10))))))), (q5, .inr (1, [.int 0, .int 0, .int 0])), (q6, .inr (1, [.int 0, .int 0, .int 0])), (q7, .inr (1, [.int 0, .int 0, .int 0])), (q8, .inr (1, [.int 0, .int 0, .int 0])), (q9, .inr (2, [.int 0, .int 0, .int 0])), (q10, .inr (2, [.int 0, .int 0, .int 0]))]) rfl dX0_init_94 (fun H locs hP hD hS => ?_)
  refine lv_iinc (v := 2) (lv' := [(1, .int 2), (0, .ref h0)]) hx hb dX0_init_95 hl (k := 0) rfl (by decide) (by decide) rfl (fun ls hl => ?_)
  refine lv_goto (tgt := 76) hx hb dX0_init_98 (by decide) ?_
  refine lv_iload_n hx hb dX0_init_76 rfl (lv_at hl 0 rfl) ?_
  refine lv_bipush (v := 6) hx hb dX0_init_77 (by decide) ?_
  refine lv_icmp_ge (tgt := 101) hx hb dX0_init_79 (by decide) (fun c_79 => ?_) (fun c_79 => ?_)
  · exact absurd c_79 (by decide)
  refine lv_aload_n hx hb dX0_init_82 rfl (lv_at hl 1 rfl) ?_
  refine w_get hx hb hts iX0_init_X0 hown hK hP 0 rfl rfl 3 (by decide) fX0_init_29 rfl rfl dX0_init_83 ?_
  refine lv_iload_n hx hb dX0_init_86 rfl (lv_at hl 0 rfl) ?_
  refine w_new (ci := 2) (fs := [.int 0, .int 0, .int 0]) hx hb hts iX0_init_X2 tyX2_ok hown clX0_init_27 itX0_init_X2 inX0_init_X2 hK hP hD hS hA rfl (fun j hj => by rcases (show j = 0 ∨ j = 1 ∨ j = 2 by omega) with rfl | rfl | rfl <;> rfl) (Nat.le_of_ble_eq_true rfl) (Nat.le_of_ble_eq_true rfl) dX0_init_87 (fun q11 H hP hD hS => ?_)
  have hP : va_P D vwCl ([(h0, .inr (0, [.ref q1, .ref q2, .ref q3, .ref q4, .int 0, .int 0, .int 0, .int 0, .int 0])), (q1, .inl (cI, 4, .inl (fun _ => 0))), (q2, .inl (cI, 7, .inl (fillN (fun _ => 0) 20 7))), (q3, .inl (cC, 4, .inr (.inr (.inr (.inr (va_up (va_up (va_up (va_up (fun _ => none) 0 (some q5)) 1 (some q6)) 2 (some q7)) 3 (some q8))))))), (q4, .inl (cT, 6, .inr (.inr (.inr (.inr (va_up (va_up (fun _ => none) 0 (some q9)) 1 (some q10))))))), (q5, .inr (1, [.int 0, .int 0, .int 0])), (q6, .inr (1, [.int 0, .int 0, .int 0])), (q7, .inr (1, [.int 0, .int 0, .int 0])), (q8, .inr (1, [.int 0, .int 0, .int 0])), (q9, .inr (2, [.int 0, .int 0, .int 0])), (q10, .inr (2, [.int 0, .int 0, .int 0])), (q11, .inr (2, [.int 0, .int 0, .int 0]))]) H := hP
  have hD : va_D A0 ([(h0, .inr (0, [.ref q1, .ref q2, .ref q3, .ref q4, .int 0, .int 0, .int 0, .int 0, .int 0])), (q1, .inl (cI, 4, .inl (fun _ => 0))), (q2, .inl (cI, 7, .inl (fillN (fun _ => 0) 20 7))), (q3, .inl (cC, 4, .inr (.inr (.inr (.inr (va_up (va_up (va_up (va_up (fun _ => none) 0 (some q5)) 1 (some q6)) 2 (some q7)) 3 (some q8))))))), (q4, .inl (cT, 6, .inr (.inr (.inr (.inr (va_up (va_up (fun _ => none) 0 (some q9)) 1 (some q10))))))), (q5, .inr (1, [.int 0, .int 0, .int 0])), (q6, .inr (1, [.int 0, .int 0, .int 0])), (q7, .inr (1, [.int 0, .int 0, .int 0])), (q8, .inr (1, [.int 0, .int 0, .int 0])), (q9, .inr (2, [.int 0, .int 0, .int 0])), (q10, .inr (2, [.int 0, .int 0, .int 0])), (q11, .inr (2, [.int 0, .int 0, .int 0]))]) := hD
  refine lv_dup hx hb dX0_init_90 rfl ?_
  refine c0_IN (As := []) (rest := [.ref q11, .int 2, .ref q4]) (ws' := [(h0, .inr (0, [.ref q1, .ref q2, .ref q3, .ref q4, .int 0, .int 0, .int 0, .int 0, .int 0])), (q1, .inl (cI, 4, .inl (fun _ => 0))), (q2, .inl (cI, 7, .inl (fillN (fun _ => 0) 20 7))), (q3, .inl (cC, 4, .inr (.inr (.inr (.inr (va_up (va_up (va_up (va_up (fun _ => none) 0 (some q5)) 1 (some q6)) 2 (some q7)) 3 (some q8))))))), (q4, .inl (cT, 6, .inr (.inr (.inr (.inr (va_up (va_up (fun _ => none) 0 (some q9)) 1 (some q10))))))), (q5, .inr (1, [.int 0, .int 0, .int 0])), (q6, .inr (1, [.int 0, .int 0, .int 0])), (q7, .inr (1, [.int 0, .int 0, .int 0])), (q8, .inr (1, [.int 0, .int 0, .int 0])), (q9, .inr (2, [.int 0, .int 0, .int 0])), (q10, .inr (2, [.int 0, .int 0, .int 0])), (q11, .inr (2, [.int 0, .int 0, .int 0]))]) ⟨hx, hb, hml, hown, hts⟩ (mX2_init l D cI cC cT cL q11 0 0 0) ⟨va_cnB 0 hts gX0_init_X2_init_n40 rfl rfl rfl (hST.2.1 _ (List.mem_of_getElem? (i := 1) rfl)) (hts _ inX0_init_X2) pX2_init ⟨Nat.le_of_ble_eq_true rfl, Nat.le_of_ble_eq_true rfl⟩, rfl, hts _ imX0_init_X2_init⟩ hK hP hD hS hA hST (Jn_set 11 q11 _ _ rfl) rfl hl.1 rfl (Nat.le_of_ble_eq_true rfl) dX0_init_91 ⟨Nat.le_of_ble_eq_true rfl, Nat.le_of_ble_eq_true rfl⟩ rfl (fun H locs hP hD hS => ?_)
  refine w_qst hx hb hK hP hD hS 4 2 11 2 rfl rfl rfl rfl 2 rfl (by decide) (by decide) (ws' := [(h0, .inr (0, [.ref q1, .ref q2, .ref q3, .ref q4, .int 0, .int 0, .int 0, .int 0, .int 0])), (q1, .inl (cI, 4, .inl (fun _ => 0))), (q2, .inl (cI, 7, .inl (fillN (fun _ => 0) 20 7))), (q3, .inl (cC, 4, .inr (.inr (.inr (.inr (va_up (va_up (va_up (va_up (fun _ => none) 0 (some q5)) 1 (some q6)) 2 (some q7)) 3 (some q8))))))), (q4, .inl (cT, 6, .inr (.inr (.inr (.inr (va_up (va_up (va_up (fun _ => none) 0 (some q9)) 1 (some q10)) 2 (some q11))))))), (q5, .inr (1, [.int 0, .int 0, .int 0])), (q6, .inr (1, [.int 0, .int 0, .int 0])), (q7, .inr (1, [.int 0, .int 0, .int 0])), (q8, .inr (1, [.int 0, .int 0, .int 0])), (q9, .inr (2, [.int 0, .int 0, .int 0])), (q10, .inr (2, [.int 0, .int 0, .int 0])), (q11, .inr (2, [.int 0, .int 0, .int 0]))]) rfl dX0_init_94 (fun H locs hP hD hS => ?_)
  refine lv_iinc (v := 3) (lv' := [(1, .int 3), (0, .ref h0)]) hx hb dX0_init_95 hl (k := 0) rfl (by decide) (by decide) rfl (fun ls hl => ?_)
  refine lv_goto (tgt := 76) hx hb dX0_init_98 (by decide) ?_
  refine lv_iload_n hx hb dX0_init_76 rfl (lv_at hl 0 rfl) ?_
  refine lv_bipush (v := 6) hx hb dX0_init_77 (by decide) ?_
  refine lv_icmp_ge (tgt := 101) hx hb dX0_init_79 (by decide) (fun c_79 => ?_) (fun c_79 => ?_)
  · exact absurd c_79 (by decide)
  refine lv_aload_n hx hb dX0_init_82 rfl (lv_at hl 1 rfl) ?_
  refine w_get hx hb hts iX0_init_X0 hown hK hP 0 rfl rfl 3 (by decide) fX0_init_29 rfl rfl dX0_init_83 ?_
  refine lv_iload_n hx hb dX0_init_86 rfl (lv_at hl 0 rfl) ?_
  refine w_new (ci := 2) (fs := [.int 0, .int 0, .int 0]) hx hb hts iX0_init_X2 tyX2_ok hown clX0_init_27 itX0_init_X2 inX0_init_X2 hK hP hD hS hA rfl (fun j hj => by rcases (show j = 0 ∨ j = 1 ∨ j = 2 by omega) with rfl | rfl | rfl <;> rfl) (Nat.le_of_ble_eq_true rfl) (Nat.le_of_ble_eq_true rfl) dX0_init_87 (fun q12 H hP hD hS => ?_)
  have hP : va_P D vwCl ([(h0, .inr (0, [.ref q1, .ref q2, .ref q3, .ref q4, .int 0, .int 0, .int 0, .int 0, .int 0])), (q1, .inl (cI, 4, .inl (fun _ => 0))), (q2, .inl (cI, 7, .inl (fillN (fun _ => 0) 20 7))), (q3, .inl (cC, 4, .inr (.inr (.inr (.inr (va_up (va_up (va_up (va_up (fun _ => none) 0 (some q5)) 1 (some q6)) 2 (some q7)) 3 (some q8))))))), (q4, .inl (cT, 6, .inr (.inr (.inr (.inr (va_up (va_up (va_up (fun _ => none) 0 (some q9)) 1 (some q10)) 2 (some q11))))))), (q5, .inr (1, [.int 0, .int 0, .int 0])), (q6, .inr (1, [.int 0, .int 0, .int 0])), (q7, .inr (1, [.int 0, .int 0, .int 0])), (q8, .inr (1, [.int 0, .int 0, .int 0])), (q9, .inr (2, [.int 0, .int 0, .int 0])), (q10, .inr (2, [.int 0, .int 0, .int 0])), (q11, .inr (2, [.int 0, .int 0, .int 0])), (q12, .inr (2, [.int 0, .int 0, .int 0]))]) H := hP
  have hD : va_D A0 ([(h0, .inr (0, [.ref q1, .ref q2, .ref q3, .ref q4, .int 0, .int 0, .int 0, .int 0, .int 0])), (q1, .inl (cI, 4, .inl (fun _ => 0))), (q2, .inl (cI, 7, .inl (fillN (fun _ => 0) 20 7))), (q3, .inl (cC, 4, .inr (.inr (.inr (.inr (va_up (va_up (va_up (va_up (fun _ => none) 0 (some q5)) 1 (some q6)) 2 (some q7)) 3 (some q8))))))), (q4, .inl (cT, 6, .inr (.inr (.inr (.inr (va_up (va_up (va_up (fun _ => none) 0 (some q9)) 1 (some q10)) 2 (some q11))))))), (q5, .inr (1, [.int 0, .int 0, .int 0])), (q6, .inr (1, [.int 0, .int 0, .int 0])), (q7, .inr (1, [.int 0, .int 0, .int 0])), (q8, .inr (1, [.int 0, .int 0, .int 0])), (q9, .inr (2, [.int 0, .int 0, .int 0])), (q10, .inr (2, [.int 0, .int 0, .int 0])), (q11, .inr (2, [.int 0, .int 0, .int 0])), (q12, .inr (2, [.int 0, .int 0, .int 0]))]) := hD
  refine lv_dup hx hb dX0_init_90 rfl ?_
  refine c0_IN (As := []) (rest := [.ref q12, .int 3, .ref q4]) (ws' := [(h0, .inr (0, [.ref q1, .ref q2, .ref q3, .ref q4, .int 0, .int 0, .int 0, .int 0, .int 0])), (q1, .inl (cI, 4, .inl (fun _ => 0))), (q2, .inl (cI, 7, .inl (fillN (fun _ => 0) 20 7))), (q3, .inl (cC, 4, .inr (.inr (.inr (.inr (va_up (va_up (va_up (va_up (fun _ => none) 0 (some q5)) 1 (some q6)) 2 (some q7)) 3 (some q8))))))), (q4, .inl (cT, 6, .inr (.inr (.inr (.inr (va_up (va_up (va_up (fun _ => none) 0 (some q9)) 1 (some q10)) 2 (some q11))))))), (q5, .inr (1, [.int 0, .int 0, .int 0])), (q6, .inr (1, [.int 0, .int 0, .int 0])), (q7, .inr (1, [.int 0, .int 0, .int 0])), (q8, .inr (1, [.int 0, .int 0, .int 0])), (q9, .inr (2, [.int 0, .int 0, .int 0])), (q10, .inr (2, [.int 0, .int 0, .int 0])), (q11, .inr (2, [.int 0, .int 0, .int 0])), (q12, .inr (2, [.int 0, .int 0, .int 0]))]) ⟨hx, hb, hml, hown, hts⟩ (mX2_init l D cI cC cT cL q12 0 0 0) ⟨va_cnB 0 hts gX0_init_X2_init_n40 rfl rfl rfl (hST.2.1 _ (List.mem_of_getElem? (i := 1) rfl)) (hts _ inX0_init_X2) pX2_init ⟨Nat.le_of_ble_eq_true rfl, Nat.le_of_ble_eq_true rfl⟩, rfl, hts _ imX0_init_X2_init⟩ hK hP hD hS hA hST (Jn_set 12 q12 _ _ rfl) rfl hl.1 rfl (Nat.le_of_ble_eq_true rfl) dX0_init_91 ⟨Nat.le_of_ble_eq_true rfl, Nat.le_of_ble_eq_true rfl⟩ rfl (fun H locs hP hD hS => ?_)
  refine w_qst hx hb hK hP hD hS 4 2 12 2 rfl rfl rfl rfl 3 rfl (by decide) (by decide) (ws' := [(h0, .inr (0, [.ref q1, .ref q2, .ref q3, .ref q4, .int 0, .int 0, .int 0, .int 0, .int 0])), (q1, .inl (cI, 4, .inl (fun _ => 0))), (q2, .inl (cI, 7, .inl (fillN (fun _ => 0) 20 7))), (q3, .inl (cC, 4, .inr (.inr (.inr (.inr (va_up (va_up (va_up (va_up (fun _ => none) 0 (some q5)) 1 (some q6)) 2 (some q7)) 3 (some q8))))))), (q4, .inl (cT, 6, .inr (.inr (.inr (.inr (va_up (va_up (va_up (va_up (fun _ => none) 0 (some q9)) 1 (some q10)) 2 (some q11)) 3 (some q12))))))), (q5, .inr (1, [.int 0, .int 0, .int 0])), (q6, .inr (1, [.int 0, .int 0, .int 0])), (q7, .inr (1, [.int 0, .int 0, .int 0])), (q8, .inr (1, [.int 0, .int 0, .int 0])), (q9, .inr (2, [.int 0, .int 0, .int 0])), (q10, .inr (2, [.int 0, .int 0, .int 0])), (q11, .inr (2, [.int 0, .int 0, .int 0])), (q12, .inr (2, [.int 0, .int 0, .int 0]))]) rfl dX0_init_94 (fun H locs hP hD hS => ?_)
  refine lv_iinc (v := 4) (lv' := [(1, .int 4), (0, .ref h0)]) hx hb dX0_init_95 hl (k := 0) rfl (by decide) (by decide) rfl (fun ls hl => ?_)
  refine lv_goto (tgt := 76) hx hb dX0_init_98 (by decide) ?_
  refine lv_iload_n hx hb dX0_init_76 rfl (lv_at hl 0 rfl) ?_
  refine lv_bipush (v := 6) hx hb dX0_init_77 (by decide) ?_
  refine lv_icmp_ge (tgt := 101) hx hb dX0_init_79 (by decide) (fun c_79 => ?_) (fun c_79 => ?_)
  · exact absurd c_79 (by decide)
  refine lv_aload_n hx hb dX0_init_82 rfl (lv_at hl 1 rfl) ?_
  refine w_get hx hb hts iX0_init_X0 hown hK hP 0 rfl rfl 3 (by decide) fX0_init_29 rfl rfl dX0_init_83 ?_
  refine lv_iload_n hx hb dX0_init_86 rfl (lv_at hl 0 rfl) ?_
  refine w_new (ci := 2) (fs := [.int 0, .int 0, .int 0]) hx hb hts iX0_init_X2 tyX2_ok hown clX0_init_27 itX0_init_X2 inX0_init_X2 hK hP hD hS hA rfl (fun j hj => by rcases (show j = 0 ∨ j = 1 ∨ j = 2 by omega) with rfl | rfl | rfl <;> rfl) (Nat.le_of_ble_eq_true rfl) (Nat.le_of_ble_eq_true rfl) dX0_init_87 (fun q13 H hP hD hS => ?_)
  have hP : va_P D vwCl ([(h0, .inr (0, [.ref q1, .ref q2, .ref q3, .ref q4, .int 0, .int 0, .int 0, .int 0, .int 0])), (q1, .inl (cI, 4, .inl (fun _ => 0))), (q2, .inl (cI, 7, .inl (fillN (fun _ => 0) 20 7))), (q3, .inl (cC, 4, .inr (.inr (.inr (.inr (va_up (va_up (va_up (va_up (fun _ => none) 0 (some q5)) 1 (some q6)) 2 (some q7)) 3 (some q8))))))), (q4, .inl (cT, 6, .inr (.inr (.inr (.inr (va_up (va_up (va_up (va_up (fun _ => none) 0 (some q9)) 1 (some q10)) 2 (some q11)) 3 (some q12))))))), (q5, .inr (1, [.int 0, .int 0, .int 0])), (q6, .inr (1, [.int 0, .int 0, .int 0])), (q7, .inr (1, [.int 0, .int 0, .int 0])), (q8, .inr (1, [.int 0, .int 0, .int 0])), (q9, .inr (2, [.int 0, .int 0, .int 0])), (q10, .inr (2, [.int 0, .int 0, .int 0])), (q11, .inr (2, [.int 0, .int 0, .int 0])), (q12, .inr (2, [.int 0, .int 0, .int 0])), (q13, .inr (2, [.int 0, .int 0, .int 0]))]) H := hP
  have hD : va_D A0 ([(h0, .inr (0, [.ref q1, .ref q2, .ref q3, .ref q4, .int 0, .int 0, .int 0, .int 0, .int 0])), (q1, .inl (cI, 4, .inl (fun _ => 0))), (q2, .inl (cI, 7, .inl (fillN (fun _ => 0) 20 7))), (q3, .inl (cC, 4, .inr (.inr (.inr (.inr (va_up (va_up (va_up (va_up (fun _ => none) 0 (some q5)) 1 (some q6)) 2 (some q7)) 3 (some q8))))))), (q4, .inl (cT, 6, .inr (.inr (.inr (.inr (va_up (va_up (va_up (va_up (fun _ => none) 0 (some q9)) 1 (some q10)) 2 (some q11)) 3 (some q12))))))), (q5, .inr (1, [.int 0, .int 0, .int 0])), (q6, .inr (1, [.int 0, .int 0, .int 0])), (q7, .inr (1, [.int 0, .int 0, .int 0])), (q8, .inr (1, [.int 0, .int 0, .int 0])), (q9, .inr (2, [.int 0, .int 0, .int 0])), (q10, .inr (2, [.int 0, .int 0, .int 0])), (q11, .inr (2, [.int 0, .int 0, .int 0])), (q12, .inr (2, [.int 0, .int 0, .int 0])), (q13, .inr (2, [.int 0, .int 0, .int 0]))]) := hD
  refine lv_dup hx hb dX0_init_90 rfl ?_
  refine c0_IN (As := []) (rest := [.ref q13, .int 4, .ref q4]) (ws' := [(h0, .inr (0, [.ref q1, .ref q2, .ref q3, .ref q4, .int 0, .int 0, .int 0, .int 0, .int 0])), (q1, .inl (cI, 4, .inl (fun _ => 0))), (q2, .inl (cI, 7, .inl (fillN (fun _ => 0) 20 7))), (q3, .inl (cC, 4, .inr (.inr (.inr (.inr (va_up (va_up (va_up (va_up (fun _ => none) 0 (some q5)) 1 (some q6)) 2 (some q7)) 3 (some q8))))))), (q4, .inl (cT, 6, .inr (.inr (.inr (.inr (va_up (va_up (va_up (va_up (fun _ => none) 0 (some q9)) 1 (some q10)) 2 (some q11)) 3 (some q12))))))), (q5, .inr (1, [.int 0, .int 0, .int 0])), (q6, .inr (1, [.int 0, .int 0, .int 0])), (q7, .inr (1, [.int 0, .int 0, .int 0])), (q8, .inr (1, [.int 0, .int 0, .int 0])), (q9, .inr (2, [.int 0, .int 0, .int 0])), (q10, .inr (2, [.int 0, .int 0, .int 0])), (q11, .inr (2, [.int 0, .int 0, .int 0])), (q12, .inr (2, [.int 0, .int 0, .int 0])), (q13, .inr (2, [.int 0, .int 0, .int 0]))]) ⟨hx, hb, hml, hown, hts⟩ (mX2_init l D cI cC cT cL q13 0 0 0) ⟨va_cnB 0 hts gX0_init_X2_init_n40 rfl rfl rfl (hST.2.1 _ (List.mem_of_getElem? (i := 1) rfl)) (hts _ inX0_init_X2) pX2_init ⟨Nat.le_of_ble_eq_true rfl, Nat.le_of_ble_eq_true rfl⟩, rfl, hts _ imX0_init_X2_init⟩ hK hP hD hS hA hST (Jn_set 13 q13 _ _ rfl) rfl hl.1 rfl (Nat.le_of_ble_eq_true rfl) dX0_init_91 ⟨Nat.le_of_ble_eq_true rfl, Nat.le_of_ble_eq_true rfl⟩ rfl (fun H locs hP hD hS => ?_)
  refine w_qst hx hb hK hP hD hS 4 2 13 2 rfl rfl rfl rfl 4 rfl (by decide) (by decide) (ws' := [(h0, .inr (0, [.ref q1, .ref q2, .ref q3, .ref q4, .int 0, .int 0, .int 0, .int 0, .int 0])), (q1, .inl (cI, 4, .inl (fun _ => 0))), (q2, .inl (cI, 7, .inl (fillN (fun _ => 0) 20 7))), (q3, .inl (cC, 4, .inr (.inr (.inr (.inr (va_up (va_up (va_up (va_up (fun _ => none) 0 (some q5)) 1 (some q6)) 2 (some q7)) 3 (some q8))))))), (q4, .inl (cT, 6, .inr (.inr (.inr (.inr (va_up (va_up (va_up (va_up (va_up (fun _ => none) 0 (some q9)) 1 (some q10)) 2 (some q11)) 3 (some q12)) 4 (some q13))))))), (q5, .inr (1, [.int 0, .int 0, .int 0])), (q6, .inr (1, [.int 0, .int 0, .int 0])), (q7, .inr (1, [.int 0, .int 0, .int 0])), (q8, .inr (1, [.int 0, .int 0, .int 0])), (q9, .inr (2, [.int 0, .int 0, .int 0])), (q10, .inr (2, [.int 0, .int 0, .int 0])), (q11, .inr (2, [.int 0, .int 0, .int 0])), (q12, .inr (2, [.int 0, .int 0, .int 0])), (q13, .inr (2, [.int 0, .int 0, .int 0]))]) rfl dX0_init_94 (fun H locs hP hD hS => ?_)
  refine lv_iinc (v := 5) (lv' := [(1, .int 5), (0, .ref h0)]) hx hb dX0_init_95 hl (k := 0) rfl (by decide) (by decide) rfl (fun ls hl => ?_)
  refine lv_goto (tgt := 76) hx hb dX0_init_98 (by decide) ?_
  refine lv_iload_n hx hb dX0_init_76 rfl (lv_at hl 0 rfl) ?_
  refine lv_bipush (v := 6) hx hb dX0_init_77 (by decide) ?_
  refine lv_icmp_ge (tgt := 101) hx hb dX0_init_79 (by decide) (fun c_79 => ?_) (fun c_79 => ?_)
  · exact absurd c_79 (by decide)
  refine lv_aload_n hx hb dX0_init_82 rfl (lv_at hl 1 rfl) ?_
  refine w_get hx hb hts iX0_init_X0 hown hK hP 0 rfl rfl 3 (by decide) fX0_init_29 rfl rfl dX0_init_83 ?_
  refine lv_iload_n hx hb dX0_init_86 rfl (lv_at hl 0 rfl) ?_
  refine w_new (ci := 2) (fs := [.int 0, .int 0, .int 0]) hx hb hts iX0_init_X2 tyX2_ok hown clX0_init_27 itX0_init_X2 inX0_init_X2 hK hP hD hS hA rfl (fun j hj => by rcases (show j = 0 ∨ j = 1 ∨ j = 2 by omega) with rfl | rfl | rfl <;> rfl) (Nat.le_of_ble_eq_true rfl) (Nat.le_of_ble_eq_true rfl) dX0_init_87 (fun q14 H hP hD hS => ?_)
  have hP : va_P D vwCl ([(h0, .inr (0, [.ref q1, .ref q2, .ref q3, .ref q4, .int 0, .int 0, .int 0, .int 0, .int 0])), (q1, .inl (cI, 4, .inl (fun _ => 0))), (q2, .inl (cI, 7, .inl (fillN (fun _ => 0) 20 7))), (q3, .inl (cC, 4, .inr (.inr (.inr (.inr (va_up (va_up (va_up (va_up (fun _ => none) 0 (some q5)) 1 (some q6)) 2 (some q7)) 3 (some q8))))))), (q4, .inl (cT, 6, .inr (.inr (.inr (.inr (va_up (va_up (va_up (va_up (va_up (fun _ => none) 0 (some q9)) 1 (some q10)) 2 (some q11)) 3 (some q12)) 4 (some q13))))))), (q5, .inr (1, [.int 0, .int 0, .int 0])), (q6, .inr (1, [.int 0, .int 0, .int 0])), (q7, .inr (1, [.int 0, .int 0, .int 0])), (q8, .inr (1, [.int 0, .int 0, .int 0])), (q9, .inr (2, [.int 0, .int 0, .int 0])), (q10, .inr (2, [.int 0, .int 0, .int 0])), (q11, .inr (2, [.int 0, .int 0, .int 0])), (q12, .inr (2, [.int 0, .int 0, .int 0])), (q13, .inr (2, [.int 0, .int 0, .int 0])), (q14, .inr (2, [.int 0, .int 0, .int 0]))]) H := hP
  have hD : va_D A0 ([(h0, .inr (0, [.ref q1, .ref q2, .ref q3, .ref q4, .int 0, .int 0, .int 0, .int 0, .int 0])), (q1, .inl (cI, 4, .inl (fun _ => 0))), (q2, .inl (cI, 7, .inl (fillN (fun _ => 0) 20 7))), (q3, .inl (cC, 4, .inr (.inr (.inr (.inr (va_up (va_up (va_up (va_up (fun _ => none) 0 (some q5)) 1 (some q6)) 2 (some q7)) 3 (some q8))))))), (q4, .inl (cT, 6, .inr (.inr (.inr (.inr (va_up (va_up (va_up (va_up (va_up (fun _ => none) 0 (some q9)) 1 (some q10)) 2 (some q11)) 3 (some q12)) 4 (some q13))))))), (q5, .inr (1, [.int 0, .int 0, .int 0])), (q6, .inr (1, [.int 0, .int 0, .int 0])), (q7, .inr (1, [.int 0, .int 0, .int 0])), (q8, .inr (1, [.int 0, .int 0, .int 0])), (q9, .inr (2, [.int 0, .int 0, .int 0])), (q10, .inr (2, [.int 0, .int 0, .int 0])), (q11, .inr (2, [.int 0, .int 0, .int 0])), (q12, .inr (2, [.int 0, .int 0, .int 0])), (q13, .inr (2, [.int 0, .int 0, .int 0])), (q14, .inr (2, [.int 0, .int 0, .int 0]))]) := hD
  refine lv_dup hx hb dX0_init_90 rfl ?_
  refine c0_IN (As := []) (rest := [.ref q14, .int 5, .ref q4]) (ws' := [(h0, .inr (0, [.ref q1, .ref q2, .ref q3, .ref q4, .int 0, .int 0, .int 0, .int 0, .int 0])), (q1, .inl (cI, 4, .inl (fun _ => 0))), (q2, .inl (cI, 7, .inl (fillN (fun _ => 0) 20 7))), (q3, .inl (cC, 4, .inr (.inr (.inr (.inr (va_up (va_up (va_up (va_up (fun _ => none) 0 (some q5)) 1 (some q6)) 2 (some q7)) 3 (some q8))))))), (q4, .inl (cT, 6, .inr (.inr (.inr (.inr (va_up (va_up (va_up (va_up (va_up (fun _ => none) 0 (some q9)) 1 (some q10)) 2 (some q11)) 3 (some q12)) 4 (some q13))))))), (q5, .inr (1, [.int 0, .int 0, .int 0])), (q6, .inr (1, [.int 0, .int 0, .int 0])), (q7, .inr (1, [.int 0, .int 0, .int 0])), (q8, .inr (1, [.int 0, .int 0, .int 0])), (q9, .inr (2, [.int 0, .int 0, .int 0])), (q10, .inr (2, [.int 0, .int 0, .int 0])), (q11, .inr (2, [.int 0, .int 0, .int 0])), (q12, .inr (2, [.int 0, .int 0, .int 0])), (q13, .inr (2, [.int 0, .int 0, .int 0])), (q14, .inr (2, [.int 0, .int 0, .int 0]))]) ⟨hx, hb, hml, hown, hts⟩ (mX2_init l D cI cC cT cL q14 0 0 0) ⟨va_cnB 0 hts gX0_init_X2_init_n40 rfl rfl rfl (hST.2.1 _ (List.mem_of_getElem? (i := 1) rfl)) (hts _ inX0_init_X2) pX2_init ⟨Nat.le_of_ble_eq_true rfl, Nat.le_of_ble_eq_true rfl⟩, rfl, hts _ imX0_init_X2_init⟩ hK hP hD hS hA hST (Jn_set 14 q14 _ _ rfl) rfl hl.1 rfl (Nat.le_of_ble_eq_true rfl) dX0_init_91 ⟨Nat.le_of_ble_eq_true rfl, Nat.le_of_ble_eq_true rfl⟩ rfl (fun H locs hP hD hS => ?_)
  refine w_qst hx hb hK hP hD hS 4 2 14 2 rfl rfl rfl rfl 5 rfl (by decide) (by decide) (ws' := [(h0, .inr (0, [.ref q1, .ref q2, .ref q3, .ref q4, .int 0, .int 0, .int 0, .int 0, .int 0])), (q1, .inl (cI, 4, .inl (fun _ => 0))), (q2, .inl (cI, 7, .inl (fillN (fun _ => 0) 20 7))), (q3, .inl (cC, 4, .inr (.inr (.inr (.inr (va_up (va_up (va_up (va_up (fun _ => none) 0 (some q5)) 1 (some q6)) 2 (some q7)) 3 (some q8))))))), (q4, .inl (cT, 6, .inr (.inr (.inr (.inr (va_up (va_up (va_up (va_up (va_up (va_up (fun _ => none) 0 (some q9)) 1 (some q10)) 2 (some q11)) 3 (some q12)) 4 (some q13)) 5 (some q14))))))), (q5, .inr (1, [.int 0, .int 0, .int 0])), (q6, .inr (1, [.int 0, .int 0, .int 0])), (q7, .inr (1, [.int 0, .int 0, .int 0])), (q8, .inr (1, [.int 0, .int 0, .int 0])), (q9, .inr (2, [.int 0, .int 0, .int 0])), (q10, .inr (2, [.int 0, .int 0, .int 0])), (q11, .inr (2, [.int 0, .int 0, .int 0])), (q12, .inr (2, [.int 0, .int 0, .int 0])), (q13, .inr (2, [.int 0, .int 0, .int 0])), (q14, .inr (2, [.int 0, .int 0, .int 0]))]) rfl dX0_init_94 (fun H locs hP hD hS => ?_)
  refine lv_iinc (v := 6) (lv' := [(1, .int 6), (0, .ref h0)]) hx hb dX0_init_95 hl (k := 0) rfl (by decide) (by decide) rfl (fun ls hl => ?_)
  refine lv_goto (tgt := 76) hx hb dX0_init_98 (by decide) ?_
  refine lv_iload_n hx hb dX0_init_76 rfl (lv_at hl 0 rfl) ?_
  refine lv_bipush (v := 6) hx hb dX0_init_77 (by decide) ?_
  refine lv_icmp_ge (tgt := 101) hx hb dX0_init_79 (by decide) (fun c_79 => ?_) (fun c_79 => ?_)
  rotate_left
  · exact absurd (by decide) c_79
  have hP := P_arr hP 1 rfl (f' := stk 0 0 0 0) (fun j _ => by simp [stk])
  have hP := P_arr hP 2 rfl (f' := fun _ => 20) (fun j hj => by simp [fillN, hj])
  have hP := P_qarr hP 3 rfl (f' := fun i => some ([h0, q1, q2, q3, q4, q5, q6, q7, q8, q9, q10, q11, q12, q13, q14].getD (5 + i) 0)) (fun j hj => by rcases (show j = 0 ∨ j = 1 ∨ j = 2 ∨ j = 3 by omega) with rfl | rfl | rfl | rfl <;> rfl)
  have hP := P_qarr hP 4 rfl (f' := fun i => some ([h0, q1, q2, q3, q4, q5, q6, q7, q8, q9, q10, q11, q12, q13, q14].getD (9 + i) 0)) (fun j hj => by rcases (show j = 0 ∨ j = 1 ∨ j = 2 ∨ j = 3 ∨ j = 4 ∨ j = 5 by omega) with rfl | rfl | rfl | rfl | rfl | rfl <;> rfl)
  exact eN_v hx hb hr hlocks (⟨fun k => [h0, q1, q2, q3, q4, q5, q6, q7, q8, q9, q10, q11, q12, q13, q14].getD k 0, rfl, rfl⟩) hP (D_fst (by rfl) hD) hS dX0_init_101 (by decide) (by decide)
end
