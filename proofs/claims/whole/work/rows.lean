section
-- ===== PART A: goes FIRST, ahead of the names: the tables' words, and 'selects' of the private methods out of them =====
/-- a private method of a class that the tables say can be made, by its rows of tables_1 -/
def lw_okq (q : MethodName × Nat) : Prop := (q.1.cls ≠ "java/lang/invoke/MethodHandle" ∧ q.1.cls ≠ "java/lang/invoke/VarHandle") ∧ Cond.instantiable q.1.cls q.2 ∈ tables_1 ∧ Cond.privateMethod q.1 ∈ tables_1 ∧ Cond.instanceMethod q.1 ∈ tables_1
theorem lw_p0 : lw_okq (⟨"java/lang/Throwable", "fillInStackTrace", "(I)Ljava/lang/Throwable;"⟩, 6) := ⟨⟨by decide +kernel, by decide +kernel⟩, List.mem_of_getElem? (i := 233) (by decide +kernel), List.mem_of_getElem? (i := 231) (by decide +kernel), List.mem_of_getElem? (i := 232) (by decide +kernel)⟩
theorem lw_p1 : lw_okq (⟨"ColdCreamery", "existingChurn", "(I)LColdCreamery$Churn;"⟩, 2) := ⟨⟨by decide +kernel, by decide +kernel⟩, List.mem_of_getElem? (i := 16) (by decide +kernel), List.mem_of_getElem? (i := 331) (by decide +kernel), List.mem_of_getElem? (i := 332) (by decide +kernel)⟩
theorem lw_p2 : lw_okq (⟨"ColdCreamery", "existingTub", "(I)LColdCreamery$Tub;"⟩, 2) := ⟨⟨by decide +kernel, by decide +kernel⟩, List.mem_of_getElem? (i := 16) (by decide +kernel), List.mem_of_getElem? (i := 368) (by decide +kernel), List.mem_of_getElem? (i := 369) (by decide +kernel)⟩
theorem lw_p3 : lw_okq (⟨"ColdCreamery$Cellar", "runHour", "()V"⟩, 9) := ⟨⟨by decide +kernel, by decide +kernel⟩, List.mem_of_getElem? (i := 24) (by decide +kernel), List.mem_of_getElem? (i := 418) (by decide +kernel), List.mem_of_getElem? (i := 419) (by decide +kernel)⟩
theorem lw_p4 : lw_okq (⟨"ColdCreamery$Cellar", "servePeople", "(I)V"⟩, 9) := ⟨⟨by decide +kernel, by decide +kernel⟩, List.mem_of_getElem? (i := 24) (by decide +kernel), List.mem_of_getElem? (i := 436) (by decide +kernel), List.mem_of_getElem? (i := 437) (by decide +kernel)⟩
theorem lw_p5 : lw_okq (⟨"ColdCreamery$Cellar", "serveOne", "()V"⟩, 9) := ⟨⟨by decide +kernel, by decide +kernel⟩, List.mem_of_getElem? (i := 24) (by decide +kernel), List.mem_of_getElem? (i := 440) (by decide +kernel), List.mem_of_getElem? (i := 441) (by decide +kernel)⟩
theorem lw_p6 : lw_okq (⟨"ColdCreameryModel", "no", "(I)I"⟩, 6) := ⟨⟨by decide +kernel, by decide +kernel⟩, List.mem_of_getElem? (i := 496) (by decide +kernel), List.mem_of_getElem? (i := 532) (by decide +kernel), List.mem_of_getElem? (i := 533) (by decide +kernel)⟩
theorem lw_p7 : lw_okq (⟨"ColdCreameryModel", "isChurn", "(I)Z"⟩, 6) := ⟨⟨by decide +kernel, by decide +kernel⟩, List.mem_of_getElem? (i := 496) (by decide +kernel), List.mem_of_getElem? (i := 555) (by decide +kernel), List.mem_of_getElem? (i := 556) (by decide +kernel)⟩
theorem lw_p8 : lw_okq (⟨"ColdCreameryModel", "packed", "(III)I"⟩, 6) := ⟨⟨by decide +kernel, by decide +kernel⟩, List.mem_of_getElem? (i := 496) (by decide +kernel), List.mem_of_getElem? (i := 559) (by decide +kernel), List.mem_of_getElem? (i := 560) (by decide +kernel)⟩
theorem lw_p9 : lw_okq (⟨"ColdCreameryModel", "ch", "(II)I"⟩, 6) := ⟨⟨by decide +kernel, by decide +kernel⟩, List.mem_of_getElem? (i := 496) (by decide +kernel), List.mem_of_getElem? (i := 563) (by decide +kernel), List.mem_of_getElem? (i := 564) (by decide +kernel)⟩
theorem lw_p10 : lw_okq (⟨"ColdCreameryModel", "setChurn", "(III)V"⟩, 6) := ⟨⟨by decide +kernel, by decide +kernel⟩, List.mem_of_getElem? (i := 496) (by decide +kernel), List.mem_of_getElem? (i := 567) (by decide +kernel), List.mem_of_getElem? (i := 568) (by decide +kernel)⟩
theorem lw_p11 : lw_okq (⟨"ColdCreameryModel", "isTub", "(I)Z"⟩, 6) := ⟨⟨by decide +kernel, by decide +kernel⟩, List.mem_of_getElem? (i := 496) (by decide +kernel), List.mem_of_getElem? (i := 579) (by decide +kernel), List.mem_of_getElem? (i := 580) (by decide +kernel)⟩
theorem lw_p12 : lw_okq (⟨"ColdCreameryModel", "tu", "(II)I"⟩, 6) := ⟨⟨by decide +kernel, by decide +kernel⟩, List.mem_of_getElem? (i := 496) (by decide +kernel), List.mem_of_getElem? (i := 583) (by decide +kernel), List.mem_of_getElem? (i := 584) (by decide +kernel)⟩
theorem lw_p13 : lw_okq (⟨"ColdCreameryModel", "setTub", "(III)V"⟩, 6) := ⟨⟨by decide +kernel, by decide +kernel⟩, List.mem_of_getElem? (i := 496) (by decide +kernel), List.mem_of_getElem? (i := 587) (by decide +kernel), List.mem_of_getElem? (i := 588) (by decide +kernel)⟩
theorem lw_p14 : lw_okq (⟨"ColdCreameryModel", "counted", "(I)I"⟩, 6) := ⟨⟨by decide +kernel, by decide +kernel⟩, List.mem_of_getElem? (i := 496) (by decide +kernel), List.mem_of_getElem? (i := 604) (by decide +kernel), List.mem_of_getElem? (i := 605) (by decide +kernel)⟩
theorem lw_p15 : lw_okq (⟨"ColdCreameryModel", "heatNow", "()I"⟩, 6) := ⟨⟨by decide +kernel, by decide +kernel⟩, List.mem_of_getElem? (i := 496) (by decide +kernel), List.mem_of_getElem? (i := 608) (by decide +kernel), List.mem_of_getElem? (i := 609) (by decide +kernel)⟩
def lw_privs_1 : List (MethodName × Nat) := [(⟨"java/lang/Throwable", "fillInStackTrace", "(I)Ljava/lang/Throwable;"⟩, 6), (⟨"ColdCreamery", "existingChurn", "(I)LColdCreamery$Churn;"⟩, 2), (⟨"ColdCreamery", "existingTub", "(I)LColdCreamery$Tub;"⟩, 2), (⟨"ColdCreamery$Cellar", "runHour", "()V"⟩, 9), (⟨"ColdCreamery$Cellar", "servePeople", "(I)V"⟩, 9), (⟨"ColdCreamery$Cellar", "serveOne", "()V"⟩, 9), (⟨"ColdCreameryModel", "no", "(I)I"⟩, 6), (⟨"ColdCreameryModel", "isChurn", "(I)Z"⟩, 6), (⟨"ColdCreameryModel", "packed", "(III)I"⟩, 6), (⟨"ColdCreameryModel", "ch", "(II)I"⟩, 6), (⟨"ColdCreameryModel", "setChurn", "(III)V"⟩, 6), (⟨"ColdCreameryModel", "isTub", "(I)Z"⟩, 6), (⟨"ColdCreameryModel", "tu", "(II)I"⟩, 6), (⟨"ColdCreameryModel", "setTub", "(III)V"⟩, 6), (⟨"ColdCreameryModel", "counted", "(I)I"⟩, 6), (⟨"ColdCreameryModel", "heatNow", "()I"⟩, 6)]
theorem lw_r1 : ∀ q ∈ lw_privs_1, lw_okq q := List.forall_mem_cons.mpr ⟨lw_p0, List.forall_mem_cons.mpr ⟨lw_p1, List.forall_mem_cons.mpr ⟨lw_p2, List.forall_mem_cons.mpr ⟨lw_p3, List.forall_mem_cons.mpr ⟨lw_p4, List.forall_mem_cons.mpr ⟨lw_p5, List.forall_mem_cons.mpr ⟨lw_p6, List.forall_mem_cons.mpr ⟨lw_p7, List.forall_mem_cons.mpr ⟨lw_p8, List.forall_mem_cons.mpr ⟨lw_p9, List.forall_mem_cons.mpr ⟨lw_p10, List.forall_mem_cons.mpr ⟨lw_p11, List.forall_mem_cons.mpr ⟨lw_p12, List.forall_mem_cons.mpr ⟨lw_p13, List.forall_mem_cons.mpr ⟨lw_p14, List.forall_mem_cons.mpr ⟨lw_p15, fun _ h => absurd h List.not_mem_nil⟩⟩⟩⟩⟩⟩⟩⟩⟩⟩⟩⟩⟩⟩⟩⟩
theorem lw_p16 : lw_okq (⟨"ColdCreameryModel", "sum", "(I)I"⟩, 6) := ⟨⟨by decide +kernel, by decide +kernel⟩, List.mem_of_getElem? (i := 496) (by decide +kernel), List.mem_of_getElem? (i := 612) (by decide +kernel), List.mem_of_getElem? (i := 613) (by decide +kernel)⟩
theorem lw_p17 : lw_okq (⟨"ColdCreameryModel", "nextTub", "()I"⟩, 6) := ⟨⟨by decide +kernel, by decide +kernel⟩, List.mem_of_getElem? (i := 496) (by decide +kernel), List.mem_of_getElem? (i := 620) (by decide +kernel), List.mem_of_getElem? (i := 621) (by decide +kernel)⟩
theorem lw_p18 : lw_okq (⟨"ColdCreameryModel", "hourOn", "()V"⟩, 6) := ⟨⟨by decide +kernel, by decide +kernel⟩, List.mem_of_getElem? (i := 496) (by decide +kernel), List.mem_of_getElem? (i := 628) (by decide +kernel), List.mem_of_getElem? (i := 629) (by decide +kernel)⟩
theorem lw_p19 : lw_okq (⟨"ColdCreameryModel", "firmUp", "(II)V"⟩, 6) := ⟨⟨by decide +kernel, by decide +kernel⟩, List.mem_of_getElem? (i := 496) (by decide +kernel), List.mem_of_getElem? (i := 632) (by decide +kernel), List.mem_of_getElem? (i := 633) (by decide +kernel)⟩
theorem lw_p20 : lw_okq (⟨"ColdCreameryModel", "soften", "(II)V"⟩, 6) := ⟨⟨by decide +kernel, by decide +kernel⟩, List.mem_of_getElem? (i := 496) (by decide +kernel), List.mem_of_getElem? (i := 636) (by decide +kernel), List.mem_of_getElem? (i := 637) (by decide +kernel)⟩
theorem lw_p21 : lw_okq (⟨"ColdCreameryModel", "sell", "()V"⟩, 6) := ⟨⟨by decide +kernel, by decide +kernel⟩, List.mem_of_getElem? (i := 496) (by decide +kernel), List.mem_of_getElem? (i := 640) (by decide +kernel), List.mem_of_getElem? (i := 641) (by decide +kernel)⟩
theorem lw_p22 : lw_okq (⟨"ColdCreameryModel", "keep", "()V"⟩, 6) := ⟨⟨by decide +kernel, by decide +kernel⟩, List.mem_of_getElem? (i := 496) (by decide +kernel), List.mem_of_getElem? (i := 648) (by decide +kernel), List.mem_of_getElem? (i := 649) (by decide +kernel)⟩
theorem lw_p23 : lw_okq (⟨"ColdCreameryModel", "bringBack", "()V"⟩, 6) := ⟨⟨by decide +kernel, by decide +kernel⟩, List.mem_of_getElem? (i := 496) (by decide +kernel), List.mem_of_getElem? (i := 653) (by decide +kernel), List.mem_of_getElem? (i := 654) (by decide +kernel)⟩
def lw_privs_2 : List (MethodName × Nat) := [(⟨"ColdCreameryModel", "sum", "(I)I"⟩, 6), (⟨"ColdCreameryModel", "nextTub", "()I"⟩, 6), (⟨"ColdCreameryModel", "hourOn", "()V"⟩, 6), (⟨"ColdCreameryModel", "firmUp", "(II)V"⟩, 6), (⟨"ColdCreameryModel", "soften", "(II)V"⟩, 6), (⟨"ColdCreameryModel", "sell", "()V"⟩, 6), (⟨"ColdCreameryModel", "keep", "()V"⟩, 6), (⟨"ColdCreameryModel", "bringBack", "()V"⟩, 6)]
theorem lw_r2 : ∀ q ∈ lw_privs_2, lw_okq q := List.forall_mem_cons.mpr ⟨lw_p16, List.forall_mem_cons.mpr ⟨lw_p17, List.forall_mem_cons.mpr ⟨lw_p18, List.forall_mem_cons.mpr ⟨lw_p19, List.forall_mem_cons.mpr ⟨lw_p20, List.forall_mem_cons.mpr ⟨lw_p21, List.forall_mem_cons.mpr ⟨lw_p22, List.forall_mem_cons.mpr ⟨lw_p23, fun _ h => absurd h List.not_mem_nil⟩⟩⟩⟩⟩⟩⟩⟩
def lw_privs : List (MethodName × Nat) := lw_privs_1 ++ (lw_privs_2)
def lw_tbl : List Cond := k2_sels lw_privs ++ tables_1
theorem lw_privs_ok : ∀ q ∈ lw_privs, lw_okq q := by
  show ∀ q ∈ lw_privs_1 ++ (lw_privs_2), lw_okq q
  exact List.forall_mem_append.mpr ⟨lw_r1, lw_r2⟩
/-- the streams that the claim lets the run draw from -/
abbrev lw_cs : List Choice := [Jvm.Choice.named "NaN.bits"]
theorem lw_bits : nanBits ∈ lw_cs := by first | decide | exact List.mem_cons_self | simp [lw_cs, nanBits]
-- ===== end of PART A; then your names; then what follows =====
end
section
/-! ===== BEGIN words of one list among another's, by their places ===== -/
theorem goodIn_r {big : List Cond} (ws : List Cond) (ps : List Nat) (hp : ws = ps.filterMap (fun i => big[i]?)) (h : ws.all goodWord = true) : GoodIn big ws := by
  intro w hw
  have h1 := List.all_eq_true.mp h w hw
  rw [hp] at hw
  obtain ⟨i, -, hi⟩ := List.mem_filterMap.mp hw
  have hm : w ∈ big := by first | exact List.mem_of_getElem? hi | exact List.getElem?_mem hi
  exact ⟨hm, good_of_word h1⟩
theorem goodIn_app {big a b : List Cond} (ha : GoodIn big a) (hb : GoodIn big b) : GoodIn big (a ++ b) := fun w h => (List.mem_append.mp h).elim (ha w) (hb w)
theorem goodIn_ca {big a b : List Cond} {c : Cond} (ha : GoodIn big (c :: a)) (hb : GoodIn big b) : GoodIn big (c :: (a ++ b)) := fun w h => (List.mem_cons.mp h).elim (fun e => ha w (List.mem_cons.mpr (Or.inl e))) (fun h => (List.mem_append.mp h).elim (fun h => ha w (List.mem_cons.mpr (Or.inr h))) (hb w))
theorem goodIn_sub {big ws : List Cond} (hm : ∀ w ∈ ws, w ∈ big) (h : ws.all goodWord = true) : GoodIn big ws := fun w hw => ⟨hm w hw, good_of_word (List.all_eq_true.mp h w hw)⟩
/-! ===== END ===== -/

/-! ===== BEGIN exceptions that leave a method, and their catching by the caller (launches without stack traces) ===== -/
section VXA
/-! The laws vx_back, vx_callV, vx_callS, vx_callSW, vx_throw0, vx_throwS follow proofs of the library, with one case more: JvmDerived/Free/Laws.lean (Back.of_free), Shelf42/LK1.lean (callV, callS), Shelf/KitTraced.lean (throwNew0V, throwNewS). -/
/-- where a method has thrown q: the class by its name, the cell, what was written, the world -/
def vx_T (XC : String → State → State → Prop) (st : State) (q : Addr) (t : State) (mc ms : Nat) (free : Addr → Prop) : Prop :=
  ∃ (E : String) (ce : Cell) (L : List Loc), XC E st t ∧ t.heap[q]? = some ce ∧ ce.vm = .none ∧ st.vm.findClass E = some ce.cls ∧ st.WarmedH t.vm ∧ st.sameButNew ({ t with vm := st.vm } : State) L mc ms ∧ ∀ z ∈ L, free z.base
def vx_Q (Qc : Array Value → State → Outcome → State → Prop) (XC : String → State → State → Prop) (mc ms : Nat) (free : Addr → Prop) : Array Value → State → Outcome → State → Prop := fun a st o t =>
  (Qc a st o t ∧ ∃ L, FrameEnd st o t L mc ms ∧ ∀ q ∈ L, free q.base) ∨ ∃ q, o = .threw q ∧ vx_T XC st q t mc ms free
/-- a callee that returns or throws -/
def vx_Met (l : Launch) (y : MethodName) (ws : List Cond) (rm : Room) (Pc : Array Value → State → Prop) (Qc : Array Value → State → Outcome → State → Prop) (XC : String → State → State → Prop) (mc ms : Nat) (free : Addr → Prop) : Prop :=
  MetFree l y (headSpec ws rm) Pc (fun _ _ _ _ _ => True) (vx_Q Qc XC mc ms free)
def vx_Post (XC : String → State → State → Prop) (mc ms : Nat) (free : Addr → Prop) : Pt → Array Value → Addr → Pt → Prop := fun A a q B =>
  ∃ (g : JFrame) (mk : MethodId) (t : State) (L : List Loc) (E : String) (ce : Cell), B.U.heap = t.heap ∧ B.U.vm = t.vm ∧ XC E (A.U.calling g mk a) t ∧ t.heap[q]? = some ce ∧ ce.vm = .none ∧ A.U.vm.findClass E = some ce.cls ∧ B.locs = A.locs ++ L ∧ (∀ z ∈ L, free z.base) ∧ B.cells = A.cells + mc ∧ B.slots = A.slots + ms
def vx_Back (l : Launch) (R : Room) (p : Program) (e : Env) (below : List Frame) (s : State) (sargs : Array Value) (y : MethodName) (len W9 : Nat)
    (Pre : Pt → Array Value → Prop) (Post : Pt → Array Value → Option Value → Pt → Prop) (PostX : Pt → Array Value → Addr → Pt → Prop) : Prop :=
  ∀ (m : MethodId) (meth : Method) (c : Code) (A : Pt) (g : JFrame) (ig : Instr) (mk : MethodId) (a : Array Value),
    Stand p l e R s m sargs below meth c A.U A.locs A.cells A.slots → g.method = m → g.locals.size = c.maxLocals → decode c.code g.pc = .ok (ig, len) →
    2 * g.monitorRoom + (g.stack.map fun v => v.category).sum ≤ W9 → A.U.methodNamed? y = some mk → Pre A a →
    (∃ (v : Option Value) (B : Pt), Stand p l e R s m sargs below meth c B.U B.locs B.cells B.slots ∧ Post A a v B ∧
      Steps p.tables e below (doInvoke e (A.U.setTop g) [] mk a).1 (B.U.setTop { g with pc := g.pc + len, stack := v.toList ++ g.stack })) ∨
    (∃ (q : Addr) (B : Pt), Stand p l e R s m sargs below meth c B.U B.locs B.cells B.slots ∧ PostX A a q B ∧
      Steps p.tables e below (doInvoke e (A.U.setTop g) [] mk a).1 ((B.U.setTop g).pushFrame (.throwing q)))
section Payer
variable {l : Launch} {R : Room} {p : Program} {e : Env} {below : List Frame} {s : State} {sargs : Array Value} {y : MethodName} {len W9 : Nat}
theorem vx_back {ws : List Cond} {rm : Room} {Pc : Array Value → State → Prop} {Qc : Array Value → State → Outcome → State → Prop} {XC : String → State → State → Prop} {mc ms : Nat} {free : Addr → Prop} {bytes : ByteArray} {maxL : Nat} {ret : Option FieldType}
    (hM : vx_Met l y ws rm Pc Qc XC mc ms free) (hblind : FrameBlind Pc) (hrc : rm.cells = mc) (hrs : rm.slots = ms)
    (hframes : rm.frames + 1 ≤ R.frames) (hlocals : W9 + (maxL + 11) + rm.locals ≤ R.locals)
    (hws : ∀ w ∈ ws, ∀ a' U, s.WarmedH U.vm → w.before a' U = true) (hcode : Cond.code y bytes maxL ret ∈ ws) (hinit : ∀ a' U, s.WarmedH U.vm → (Cond.initialized y.cls).before a' U = true) :
    vx_Back l R p e below s sargs y len W9 (PreOf R mc ms Pc) (PostOf Qc mc ms free) (vx_Post XC mc ms free) := by
  intro m meth c A g ig mk a X hg hsize hdg hW hn hp
  have h1 : (headSpec ws rm).pre.before a A.U = true := atoms_intro fun w hw => hws w hw _ _ X.warmed
  have h2 : (Cond.code y bytes maxL ret).before a A.U = true := hws _ hcode _ _ X.warmed
  have h3 : (Cond.initialized y.cls).before a A.U = true := hinit _ _ X.warmed
  have h4 : A.cells + (headSpec ws rm).room.cells ≤ R.cells := by rw [show (headSpec ws rm).room.cells = mc from hrc]; exact hp.1
  have h5 : A.slots + (headSpec ws rm).room.slots ≤ R.slots := by rw [show (headSpec ws rm).room.slots = ms from hrs]; exact hp.2.1
  have hPc : Pc a (A.U.calling g mk a) := hblind _ _ _ _ hp.2.2
  obtain ⟨U, Ls, c0, s0⟩ := A
  dsimp only [Pt.U, Pt.locs, Pt.cells, Pt.slots] at h1 h2 h3 h4 h5 X hn hPc ⊢
  obtain ⟨methY, cY, hmY, hcY, -, hlY, -, -, -, -⟩ := Cond.code_spec hn h2
  obtain ⟨kY, hkY, -⟩ := className_of_methodNamed hn
  have hinitY : kY.init = .initialized := Cond.initialized_spec (findClass_of_methodNamed hn) hkY h3
  have h : At U g.method c below := by rw [hg]; exact X.here
  have hlocals9 : W9 + (maxL + 11) + (headSpec ws rm).room.locals ≤ R.locals := hlocals
  have happ : (headSpec ws rm).appliesLoose y e.platform (U.calling g mk a) = true :=
    Spec.appliesLoose_calling (g := g) h hdg hn hkY hinitY
      (X.room_calling (g := g) (R' := (headSpec ws rm).room) hsize hmY hcY hframes (by rw [hlY]; omega) h4 h5) h1
  obtain ⟨mid, hmid⟩ := h.above
  have hfr : (U.setTop g).frames = (.java g :: mid) ++ below := by rw [State.frames_setTop' g h.top, hmid]; rfl
  obtain ⟨o, s₂, hsteps, -, hend, hq⟩ := Steps.callFree hM p X.admits X.cas X.clock (acts := []) hfr happ hPc trivial
  have hq' : vx_Q Qc XC mc ms free a (U.calling g mk a) o s₂ := hq
  rw [State.frames_setTop' g h.top] at hend
  obtain ⟨g₀, hg0⟩ := Option.isSome_iff_exists.mp h.top
  obtain ⟨r, hr⟩ := State.topJava?_eq_some.mp hg0
  have hr' : (({ U with heap := s₂.heap, slotsUsed := s₂.slotsUsed } : State).setVm s₂.vm).frames = .java g₀ :: r := hr
  rcases hq' with ⟨hqc, L, hfe, hL⟩ | ⟨q, rfl, E, ce, L, hx, hce, hcv, hcl, hW₂, hsm, hL⟩
  · obtain ⟨⟨v, rfl⟩, hW₂, e2, q2, q3, q4, q5, q6⟩ := id hfe
    have e3 : s₂ = ({ (U.calling g mk a).setFrames s₂.frames with heap := s₂.heap, slotsUsed := s₂.slotsUsed } : State).setVm s₂.vm := by
      have : s₂ = ({ s₂ with vm := (U.calling g mk a).vm } : State).setVm s₂.vm := rfl
      rw [e2] at this
      exact this
    obtain ⟨c₂, i₂, len₂, hc₂, hd₂, hf₂⟩ := hend
    have hW' : U.WarmedH s₂.vm := hW₂
    have hcc : c₂ = c := by
      have h1 : s₂.code? g.method = U.code? g.method := by
        rw [State.code?_eq, State.code?_eq, hW'.alike.method?]
      exact Option.some.inj (hc₂.symm.trans (h1.trans h.code))
    subst hcc
    have hlen : len₂ = len := by rw [hdg] at hd₂; cases hd₂; rfl
    subst hlen
    have hs₂ : s₂ = (({ U with heap := s₂.heap, slotsUsed := s₂.slotsUsed } : State).setVm s₂.vm).setTop { g with pc := g.pc + len₂, stack := v.toList ++ g.stack } := by
      refine e3.trans ?_
      rw [hf₂, State.calling_eq h.top, State.setFrames_setFrames, State.setTop_of_frames _ hr', hr]
      rfl
    have hsame : U.sameButNew ({ U with heap := s₂.heap, slotsUsed := s₂.slotsUsed } : State) L mc ms := by
      refine ⟨?_, q2, q3, q4, q5, q6⟩
      obtain ⟨t, ht, -⟩ := State.frames_cons hr
      show ({ U with heap := s₂.heap, slotsUsed := s₂.slotsUsed } : State) = { U.setFrames U.frames with heap := s₂.heap, slotsUsed := s₂.slotsUsed }
      rw [State.setFrames_self ht]
    subst hg
    refine Or.inl ⟨v, ⟨(({ U with heap := s₂.heap, slotsUsed := s₂.slotsUsed } : State).setVm s₂.vm), Ls ++ L, c0 + mc, s0 + ms⟩,
      ⟨X.admits, X.cas, X.clock, X.frames, X.room, X.hears, X.method, X.code, (X.here.setHeapUsed s₂.heap s₂.slotsUsed).setVm hW'.alike, X.tail, State.WarmedH.trans X.warmed hW', X.limits, X.bytes, X.same.trans (hsame.setVm s.vm)⟩,
      ⟨g, mk, s₂, L, rfl, rfl, hqc, rfl, hL, rfl, rfl⟩, ?_⟩
    show Steps p.tables e below _ ((({ U with heap := s₂.heap, slotsUsed := s₂.slotsUsed } : State).setVm s₂.vm).setTop { g with pc := g.pc + len₂, stack := v.toList ++ g.stack })
    rw [← hs₂]
    exact hsteps
  · obtain ⟨e2, q2, q3, q4, q5, q6⟩ := id hsm
    have e3 : s₂ = ({ (U.calling g mk a).setFrames s₂.frames with heap := s₂.heap, slotsUsed := s₂.slotsUsed } : State).setVm s₂.vm := by
      have : s₂ = ({ s₂ with vm := (U.calling g mk a).vm } : State).setVm s₂.vm := rfl
      rw [e2] at this
      exact this
    have hf₂ : s₂.frames = .throwing q :: .java g :: U.frames.tail := hend
    have hW' : U.WarmedH s₂.vm := hW₂
    have hs₂ : s₂ = ((({ U with heap := s₂.heap, slotsUsed := s₂.slotsUsed } : State).setVm s₂.vm).setTop g).pushFrame (.throwing q) := by
      refine e3.trans ?_
      rw [hf₂, State.calling_eq h.top, State.setFrames_setFrames, State.pushFrame, State.frames_setTop _ hr', State.setTop_of_frames _ hr', State.setFrames_setFrames, hr]
      rfl
    have hsame : U.sameButNew ({ U with heap := s₂.heap, slotsUsed := s₂.slotsUsed } : State) L mc ms := by
      refine ⟨?_, q2, q3, q4, q5, q6⟩
      obtain ⟨t, ht, -⟩ := State.frames_cons hr
      show ({ U with heap := s₂.heap, slotsUsed := s₂.slotsUsed } : State) = { U.setFrames U.frames with heap := s₂.heap, slotsUsed := s₂.slotsUsed }
      rw [State.setFrames_self ht]
    subst hg
    refine Or.inr ⟨q, ⟨(({ U with heap := s₂.heap, slotsUsed := s₂.slotsUsed } : State).setVm s₂.vm), Ls ++ L, c0 + mc, s0 + ms⟩,
      ⟨X.admits, X.cas, X.clock, X.frames, X.room, X.hears, X.method, X.code, (X.here.setHeapUsed s₂.heap s₂.slotsUsed).setVm hW'.alike, X.tail, State.WarmedH.trans X.warmed hW', X.limits, X.bytes, X.same.trans (hsame.setVm s.vm)⟩,
      ⟨g, mk, s₂, L, E, ce, rfl, rfl, hx, hce, hcv, hcl, rfl, hL, rfl, rfl⟩, ?_⟩
    show Steps p.tables e below _ (((({ U with heap := s₂.heap, slotsUsed := s₂.slotsUsed } : State).setVm s₂.vm).setTop g).pushFrame (.throwing q))
    rw [← hs₂]
    exact hsteps
end Payer
section Calls
variable {p : Program} {l : Launch} {e : Env} {R : Room} {s : State} {m : MethodId} {args : Array Value} {below : List Frame} {meth : Method} {c : Code} {T : State} {locs : List Loc} {cells slots : Nat}
theorem vx_callV (X : Stand p l e R s m args below meth c T locs cells slots) (hexec : p.tables.exec = Jvm.exec) {own C : String} {index : Nat} {y : MethodName} {bytes : ByteArray} {maxL : Nat} {ret : Option FieldType}
    (hown : s.vm.findClass own = some m.cls) (hlink : (Cond.methodLink own index y).before args s = true) (hinst : (Cond.instanceMethod y).before args s = true) (hsel : (Cond.selects C y y).before args s = true)
    (hcode : (Cond.code y bytes maxL ret).before args s = true) (hy : y.cls ≠ "java/lang/invoke/MethodHandle" ∧ y.cls ≠ "java/lang/invoke/VarHandle")
    {W9 : Nat} {Pre : Pt → Array Value → Prop} {Post : Pt → Array Value → Option Value → Pt → Prop} {PostX : Pt → Array Value → Addr → Pt → Prop} (hK : vx_Back l R p e below s args y 3 W9 Pre Post PostX)
    {b : Addr} {cellB : Cell} (hcell : T.heap[b]? = some cellB) (hobj : cellB.vm.isStatics = false) (hcls : s.vm.findClass C = some cellB.cls)
    {g : JFrame} (hg : g.method = m) (hsize : g.locals.size = c.maxLocals) {argsL rest : List Value} (hlen : ∀ sig, parseMethodDescriptor y.desc = some sig → argsL.length = sig.parameters.length)
    (hstack : g.stack = argsL.reverse ++ .ref b :: rest) (hW : 2 * g.monitorRoom + (rest.map fun v => v.category).sum ≤ W9) (hdg : decode c.code g.pc = .ok (.invokevirtual index, 3))
    (hpre : ∀ vm₁, s.WarmedH vm₁ → Pre ⟨T.setVm vm₁, locs, cells, slots⟩ (Value.ref b :: argsL).toArray) :
    (∃ (v : Option Value) (vm₁ : Vm) (B : Pt), s.WarmedH vm₁ ∧ Stand p l e R s m args below meth c B.U B.locs B.cells B.slots ∧ Post ⟨T.setVm vm₁, locs, cells, slots⟩ (Value.ref b :: argsL).toArray v B ∧
      ∀ target, Steps p.tables e below (B.U.setTop { g with pc := g.pc + 3, stack := v.toList ++ rest }) target → Steps p.tables e below (T.setTop g) target) ∨
    (∃ (q : Addr) (vm₁ : Vm) (B : Pt), s.WarmedH vm₁ ∧ Stand p l e R s m args below meth c B.U B.locs B.cells B.slots ∧ PostX ⟨T.setVm vm₁, locs, cells, slots⟩ (Value.ref b :: argsL).toArray q B ∧
      Steps p.tables e below (T.setTop g) ((B.U.setTop { g with stack := rest }).pushFrame (.throwing q))) := by
  obtain ⟨mk, methM, hnamed, hmethM, hstM, habM⟩ := Cond.instanceMethod_spec hinst
  obtain ⟨methM', cM, hmethM', -, -, -, -, -, -, hsigM⟩ := Cond.code_spec hnamed hcode
  cases hmethM.symm.trans hmethM'
  obtain ⟨c2, r2, m2, q1, q2, q3, q4, kP, hkP, hkPi⟩ := Cond.selects_spec hsel
  cases hcls.symm.trans q1
  cases (State.methodFound?_of_named hnamed hy).symm.trans q2
  cases hnamed.symm.trans q3
  have hselP : selectMethod e.platform s.vm cellB.cls mk = .method mk := by rw [Launch.admits_selectMethod X.admits]; exact q4
  obtain ⟨vm₁, X₁, hstep₁⟩ := X.invokevirtual hexec hown hlink hnamed hmethM hstM hkP hkPi hy (a := b) (cell := cellB) hcell
    (fun z h => by rw [h] at hobj; cases hobj) hselP hmethM habM hkP hkPi (g := g) hg (argsL := argsL) (rest := rest) (hlen _ hsigM) hstack hdg
  rcases hK m meth c ⟨T.setVm vm₁, locs, cells, slots⟩ { g with stack := rest } (.invokevirtual index) mk (Value.ref b :: argsL).toArray X₁ hg hsize hdg hW (X₁.named hnamed) (hpre vm₁ X₁.warmed) with ⟨v, B, X', hpost, hsteps⟩ | ⟨q, B, X', hpost, hsteps⟩
  · exact Or.inl ⟨v, vm₁, B, X₁.warmed, X', hpost, fun target h => hstep₁ _ fun acts => by rw [doInvoke_state]; exact hsteps.trans h⟩
  · exact Or.inr ⟨q, vm₁, B, X₁.warmed, X', hpost, hstep₁ _ fun acts => by rw [doInvoke_state]; exact hsteps⟩
theorem vx_callS (X : Stand p l e R s m args below meth c T locs cells slots) (hexec : p.tables.exec = Jvm.exec) {own : String} {index : Nat} {y : MethodName} {bytes : ByteArray} {maxL : Nat} {ret : Option FieldType}
    (hown : s.vm.findClass own = some m.cls) (hlink : (Cond.methodLink own index y).before args s = true) (hstat : (Cond.static y).before args s = true) (hinit : (Cond.initialized y.cls).before args s = true)
    (hcode : (Cond.code y bytes maxL ret).before args s = true) (hy : y.cls ≠ "java/lang/invoke/MethodHandle" ∧ y.cls ≠ "java/lang/invoke/VarHandle")
    {W9 : Nat} {Pre : Pt → Array Value → Prop} {Post : Pt → Array Value → Option Value → Pt → Prop} {PostX : Pt → Array Value → Addr → Pt → Prop} (hK : vx_Back l R p e below s args y 3 W9 Pre Post PostX)
    {g : JFrame} (hg : g.method = m) (hsize : g.locals.size = c.maxLocals) {argsL rest : List Value} (hlen : ∀ sig, parseMethodDescriptor y.desc = some sig → argsL.length = sig.parameters.length)
    (hstack : g.stack = argsL.reverse ++ rest) (hW : 2 * g.monitorRoom + (rest.map fun v => v.category).sum ≤ W9) (hdg : decode c.code g.pc = .ok (.invokestatic index, 3))
    (hpre : ∀ vm₁, s.WarmedH vm₁ → Pre ⟨T.setVm vm₁, locs, cells, slots⟩ argsL.toArray) :
    (∃ (v : Option Value) (vm₁ : Vm) (B : Pt), s.WarmedH vm₁ ∧ Stand p l e R s m args below meth c B.U B.locs B.cells B.slots ∧ Post ⟨T.setVm vm₁, locs, cells, slots⟩ argsL.toArray v B ∧
      ∀ target, Steps p.tables e below (B.U.setTop { g with pc := g.pc + 3, stack := v.toList ++ rest }) target → Steps p.tables e below (T.setTop g) target) ∨
    (∃ (q : Addr) (vm₁ : Vm) (B : Pt), s.WarmedH vm₁ ∧ Stand p l e R s m args below meth c B.U B.locs B.cells B.slots ∧ PostX ⟨T.setVm vm₁, locs, cells, slots⟩ argsL.toArray q B ∧
      Steps p.tables e below (T.setTop g) ((B.U.setTop { g with stack := rest }).pushFrame (.throwing q))) := by
  obtain ⟨mk, hnamed⟩ := Cond.code_named hcode
  obtain ⟨methM, cM, hmethM, -, -, -, -, -, -, hsigM⟩ := Cond.code_spec hnamed hcode
  have hstatic : methM.isStatic = true := Cond.static_spec hnamed hmethM hstat
  obtain ⟨kP, hkP, -⟩ := className_of_methodNamed hnamed
  have hinitP : kP.init = .initialized := Cond.initialized_spec (findClass_of_methodNamed hnamed) hkP hinit
  obtain ⟨vm₁, X₁, hstep₁⟩ := X.invokestatic hexec hown hlink hnamed hmethM hstatic hkP hinitP hy (g := g) hg (argsL := argsL) (rest := rest) (hlen _ hsigM) hstack hdg
  rcases hK m meth c ⟨T.setVm vm₁, locs, cells, slots⟩ { g with stack := rest } (.invokestatic index) mk argsL.toArray X₁ hg hsize hdg hW (X₁.named hnamed) (hpre vm₁ X₁.warmed) with ⟨v, B, X', hpost, hsteps⟩ | ⟨q, B, X', hpost, hsteps⟩
  · exact Or.inl ⟨v, vm₁, B, X₁.warmed, X', hpost, fun target h => hstep₁ _ fun acts => by rw [doInvoke_state]; exact hsteps.trans h⟩
  · exact Or.inr ⟨q, vm₁, B, X₁.warmed, X', hpost, hstep₁ _ fun acts => by rw [doInvoke_state]; exact hsteps⟩
end Calls
theorem vx_cls {s : State} {T : State} {vm₁ : Vm} {E : String} {k : ClassId} (hW : s.WarmedH vm₁) (h : (T.setVm vm₁).vm.findClass E = some k) : s.vm.findClass E = some k := by
  have h1 : vm₁.findClass E = some k := h
  rw [hW.alike.findClass] at h1
  exact h1
/-- the method's frame g, with q thrown over it -/
def vx_W (p : Program) (l : Launch) (e : Env) (R : Room) (s : State) (m : MethodId) (args : Array Value) (below : List Frame) (meth : Method) (c : Code) (H : Heap) (locs : List Loc) (cells slots : Nat) (Q : State → Prop) (g : JFrame) (q : Addr) : Prop :=
  ∀ T : State, T.heap = H → Stand p l e R s m args below meth c T locs cells slots → ∃ t, Steps p.tables e below ((T.setTop g).pushFrame (.throwing q)) t ∧ Q t
def vx_Run (p : Program) (l : Launch) (e : Env) (R : Room) (s : State) (m : MethodId) (args : Array Value) (below : List Frame) (meth : Method) (c : Code) (H : Heap) (locs : List Loc) (cells slots mc ms : Nat) (g : JFrame) (rest : List Value) (Qa : State → Outcome → State → Prop) (XC : String → State → State → Prop) (free : Addr → Prop) : Prop :=
  ∀ T : State, T.heap = H → Stand p l e R s m args below meth c T locs cells slots →
    (∃ (v : Option Value) (st₀ t T' : State) (L : List Loc), st₀.heap = H ∧ Stand p l e R s m args below meth c T' (locs ++ L) (cells + mc) (slots + ms) ∧ (∀ q ∈ L, free q.base) ∧ T'.heap = t.heap ∧ T'.vm = t.vm ∧ Qa st₀ (.returned v) t ∧
      Goes p e below T g T' { g with pc := g.pc + 3, stack := v.toList ++ rest }) ∨
    (∃ (q : Addr) (st₀ t T' : State) (L : List Loc) (E : String) (ce : Cell), st₀.heap = H ∧ Stand p l e R s m args below meth c T' (locs ++ L) (cells + mc) (slots + ms) ∧ (∀ z ∈ L, free z.base) ∧ T'.heap = t.heap ∧ T'.vm = t.vm ∧ XC E st₀ t ∧ t.heap[q]? = some ce ∧ ce.vm = .none ∧ s.vm.findClass E = some ce.cls ∧
      Steps p.tables e below (T.setTop g) ((T'.setTop { g with stack := rest }).pushFrame (.throwing q)))
def vx_X {S : Type} (px : S → Prop) (B : String → S → State → Prop) (A : Nat → Prop) : String → State → State → Prop := fun E st t => ∃ u : S, px u ∧ B E u t ∧ va_F A st t
section Runs
variable {p : Program} {l : Launch} {e : Env} {R : Room} {s : State} {m : MethodId} {args : Array Value} {below : List Frame} {meth : Method} {c : Code} {H : Heap} {locs : List Loc} {cells slots : Nat}
variable {y : MethodName} {bytes cc : ByteArray} {maxL nL mc ms n index : Nat} {ret : Option FieldType} {ws : List Cond} {rm : Room} {Pc : Array Value → State → Prop} {Qc : Array Value → State → Outcome → State → Prop} {XC : String → State → State → Prop} {free : Addr → Prop} {Ts : List Cond} {own C : String} {b : Addr} {As rest : List Value} {g : JFrame}
theorem vx_callBack (cb : CallB R s args own index y bytes maxL ret ws rm mc ms n) (hM : vx_Met l y ws rm Pc Qc XC mc ms free) (hbl : FrameBlind Pc) : vx_Back l R p e below s args y 3 8 (PreOf R mc ms Pc) (PostOf Qc mc ms free) (vx_Post XC mc ms free) := by
  obtain ⟨hrc, hrs, hfr, hlo, hws, hcw, -, hini, -⟩ := cb
  exact vx_back (bytes := bytes) (maxL := maxL) (ret := ret) hM hbl hrc hrs hfr hlo hws hcw (fun a' U hW => word_at hW (Or.inl (by first | rfl | simp [Cond.onTables, Cond.keeps, Cond.steady])) hini)
theorem vx_runV (S : CallFix p m c cc nL s args Ts own) (hM : vx_Met l y ws rm Pc Qc XC mc ms free) (cw : CallW R s args own C index y bytes maxL ret ws rm mc ms n) (hp : PreV s H C b Pc As)
    (hg : g.method = m) (hn : As.length = n) (hsize : g.locals.size = nL) (hstack : g.stack = As.reverse ++ .ref b :: rest) (hW : 2 * g.monitorRoom + (rest.map fun v => v.category).sum ≤ 8) (hdg : decode cc g.pc = .ok (.invokevirtual index, 3)) (hf : cells + mc ≤ R.cells ∧ slots + ms ≤ R.slots) :
    vx_Run p l e R s m args below meth c H locs cells slots mc ms g rest (Qc (Value.ref b :: As).toArray) XC free := by
  have hK : vx_Back l R p e below s args y 3 8 (PreOf R mc ms Pc) (PostOf Qc mc ms free) (vx_Post XC mc ms free) := vx_callBack cw.1 hM hp.1
  obtain ⟨⟨-, -, -, -, -, -, hcode, -, hy, hlen, hl⟩, hin, hse⟩ := cw
  obtain ⟨hx, hb, hml, ho, -⟩ := S
  obtain ⟨-, ⟨cellB, hcB, hoB, hclB⟩, hPc⟩ := hp
  intro T hT X
  rcases vx_callV X hx (C := C) (bytes := bytes) (maxL := maxL) (ret := ret) ho hl hin hse hcode hy hK (by rw [hT]; exact hcB) hoB hclB hg (hsize.trans hml.symm) (argsL := As) (rest := rest) (fun sig h => hn.trans (hlen sig h)) hstack hW (by rw [hb]; exact hdg)
    (fun vm₁ hW₁ => ⟨hf.1, hf.2, hPc (T.setVm vm₁) hT hW₁⟩) with ⟨v, vm₁, ⟨U', l2, c2, s2⟩, hW₁, X', ⟨g', mk, t, L, e1, e2, hq, h1, hL, h2, h3⟩, st⟩ | ⟨q, vm₁, ⟨U', l2, c2, s2⟩, hW₁, X', ⟨g', mk, t, L, E, ce, e1, e2, hq, hce, hcv, hcl, h1, hL, h2, h3⟩, st⟩
  · dsimp only [Pt.U, Pt.locs, Pt.cells, Pt.slots] at X' e1 e2 h1 h2 h3 st
    subst h1; subst h2; subst h3
    exact Or.inl ⟨v, (T.setVm vm₁).calling g' mk (Value.ref b :: As).toArray, t, U', L, hT, X', hL, e1, e2, hq, st⟩
  · dsimp only [Pt.U, Pt.locs, Pt.cells, Pt.slots] at X' e1 e2 h1 h2 h3 st hcl
    subst h1; subst h2; subst h3
    exact Or.inr ⟨q, (T.setVm vm₁).calling g' mk (Value.ref b :: As).toArray, t, U', L, E, ce, hT, X', hL, e1, e2, hq, hce, hcv, vx_cls hW₁ hcl, st⟩
theorem vx_runS (S : CallFix p m c cc nL s args Ts own) (hM : vx_Met l y ws rm Pc Qc XC mc ms free) (cw : CallB R s args own index y bytes maxL ret ws rm mc ms n ∧ (Cond.static y).before args s = true) (hp : PreS s H Pc As)
    (hg : g.method = m) (hn : As.length = n) (hsize : g.locals.size = nL) (hstack : g.stack = As.reverse ++ rest) (hW : 2 * g.monitorRoom + (rest.map fun v => v.category).sum ≤ 8) (hdg : decode cc g.pc = .ok (.invokestatic index, 3)) (hf : cells + mc ≤ R.cells ∧ slots + ms ≤ R.slots) :
    vx_Run p l e R s m args below meth c H locs cells slots mc ms g rest (Qc As.toArray) XC free := by
  have hK : vx_Back l R p e below s args y 3 8 (PreOf R mc ms Pc) (PostOf Qc mc ms free) (vx_Post XC mc ms free) := vx_callBack cw.1 hM hp.1
  obtain ⟨⟨-, -, -, -, -, -, hcode, hini, hy, hlen, hl⟩, hstt⟩ := cw
  obtain ⟨hx, hb, hml, ho, -⟩ := S
  intro T hT X
  rcases vx_callS X hx (bytes := bytes) (maxL := maxL) (ret := ret) ho hl hstt hini hcode hy hK hg (hsize.trans hml.symm) (argsL := As) (rest := rest) (fun sig h => hn.trans (hlen sig h)) hstack hW (by rw [hb]; exact hdg)
    (fun vm₁ hW₁ => ⟨hf.1, hf.2, hp.2 (T.setVm vm₁) hT hW₁⟩) with ⟨v, vm₁, ⟨U', l2, c2, s2⟩, hW₁, X', ⟨g', mk, t, L, e1, e2, hq, h1, hL, h2, h3⟩, st⟩ | ⟨q, vm₁, ⟨U', l2, c2, s2⟩, hW₁, X', ⟨g', mk, t, L, E, ce, e1, e2, hq, hce, hcv, hcl, h1, hL, h2, h3⟩, st⟩
  · dsimp only [Pt.U, Pt.locs, Pt.cells, Pt.slots] at X' e1 e2 h1 h2 h3 st
    subst h1; subst h2; subst h3
    exact Or.inl ⟨v, (T.setVm vm₁).calling g' mk As.toArray, t, U', L, hT, X', hL, e1, e2, hq, st⟩
  · dsimp only [Pt.U, Pt.locs, Pt.cells, Pt.slots] at X' e1 e2 h1 h2 h3 st hcl
    subst h1; subst h2; subst h3
    exact Or.inr ⟨q, (T.setVm vm₁).calling g' mk As.toArray, t, U', L, E, ce, hT, X', hL, e1, e2, hq, hce, hcv, vx_cls hW₁ hcl, st⟩
end Runs
section Rows
variable {p : Program} {l : Launch} {e : Env} {R : Room} {s : State} {m : MethodId} {args : Array Value} {below : List Frame} {meth : Method} {c : Code} {H : Heap} {locs : List Loc} {cells slots : Nat} {Q : State → Prop}
variable {mc ms : Nat} {free : Addr → Prop} {A0 A1 : Nat → Prop} {H0 : Heap} {a : Array Value} {pc : Nat} {ls : Array Slot} {st0 rest : List Value}
theorem vx_keep {st₀ t T' : State} {L : List Loc} (h0 : st₀.heap = H) (e1 : T'.heap = t.heap) (hS : va_S A0 H0 H locs) (hA : ∀ q, q < H.size → A1 q → A0 q) (hf : ∀ q, free q → A0 q) (hL : ∀ q ∈ L, free q.base) (hF : va_F A1 st₀ t) :
    H.size ≤ T'.heap.size ∧ (∀ q : Nat, q < H.size → ¬ A1 q → T'.heap[q]? = H[q]?) ∧ va_S A0 H0 T'.heap (locs ++ L) := by
  obtain ⟨hz, hk⟩ := hF
  rw [h0] at hz hk
  exact ⟨by rw [e1]; exact hz, fun q h1 h2 => by rw [e1]; exact hk q h1 h2,
    ⟨Nat.le_trans hS.1 (by rw [e1]; exact hz), fun q h1 h2 => by rw [e1, hk q (Nat.lt_of_lt_of_le h1 hS.1) (fun z => h2 (hA q (Nat.lt_of_lt_of_le h1 hS.1) z))]; exact hS.2.1 q h1 h2, fun q hq => by
      rcases List.mem_append.mp hq with h | h
      · exact hS.2.2 q h
      · exact hf _ (hL q h)⟩⟩
theorem vx_calli {S SX : Type} {post : Int32 → S → Prop} {px : SX → Prop} {B : S → State → Prop} {BX : String → SX → State → Prop} {AX : Nat → Prop} (hr : vx_Run p l e R s m args below meth c H locs cells slots mc ms (F0 m pc ls st0) rest (va_Qi post B A1 a) (vx_X px BX AX) free) (hS : va_S A0 H0 H locs) (hA : ∀ q, q < H.size → A1 q → A0 q) (hf : ∀ q, free q → A0 q) (hAX : ∀ q, q < H.size → AX q → A0 q)
    (kx : ∀ (E : String) (ce : Cell) (q9 : Addr) (u : SX) (t : State) (H1 : Heap) (locs1 : List Loc), t.heap = H1 → s.vm.Alike t.vm → px u → BX E u t → H.size ≤ H1.size → (∀ q : Nat, q < H.size → ¬ AX q → H1[q]? = H[q]?) → va_S A0 H0 H1 locs1 → H1[q9]? = some ce → ce.vm = .none → s.vm.findClass E = some ce.cls → vx_W p l e R s m args below meth c H1 locs1 (cells + mc) (slots + ms) Q (F0 m pc ls rest) q9)
    (kk : ∀ (r : Int32) (u : S) (t : State) (H1 : Heap) (locs1 : List Loc), t.heap = H1 → s.vm.Alike t.vm → post r u → B u t → H.size ≤ H1.size → (∀ q : Nat, q < H.size → ¬ A1 q → H1[q]? = H[q]?) → va_S A0 H0 H1 locs1 → W p l e R s m args below meth c H1 locs1 (cells + mc) (slots + ms) Q (F0 m (pc + 3) ls (.int r :: rest))) : W p l e R s m args below meth c H locs cells slots Q (F0 m pc ls st0) := by
  intro T hT X
  rcases hr T hT X with ⟨v, st₀, t, T', L, h0, X', hL, e1, e2, ⟨⟨r, u, hv, hp, hb⟩, hF⟩, st⟩ | ⟨q, st₀, t, T', L, E, ce, h0, X', hL, e1, e2, ⟨u, hp, hb, hF⟩, hce, hcv, hcl, st⟩
  · cases hv
    obtain ⟨k1, k2, k3⟩ := vx_keep h0 e1 hS hA hf hL hF
    obtain ⟨t2, a1, b1⟩ := kk r u t T'.heap (locs ++ L) e1.symm (by rw [← e2]; exact X'.warmed.alike) hp hb k1 k2 k3 T' rfl X'
    exact ⟨t2, st t2 a1, b1⟩
  · obtain ⟨k1, k2, k3⟩ := vx_keep h0 e1 hS hAX hf hL hF
    obtain ⟨t2, a1, b1⟩ := kx E ce q u t T'.heap (locs ++ L) e1.symm (by rw [← e2]; exact X'.warmed.alike) hp hb k1 k2 k3 (by rw [e1]; exact hce) hcv hcl T' rfl X'
    exact ⟨t2, st.trans a1, b1⟩
theorem vx_calll {S SX : Type} {post : Int64 → S → Prop} {px : SX → Prop} {B : S → State → Prop} {BX : String → SX → State → Prop} {AX : Nat → Prop} (hr : vx_Run p l e R s m args below meth c H locs cells slots mc ms (F0 m pc ls st0) rest (va_Ql post B A1 a) (vx_X px BX AX) free) (hS : va_S A0 H0 H locs) (hA : ∀ q, q < H.size → A1 q → A0 q) (hf : ∀ q, free q → A0 q) (hAX : ∀ q, q < H.size → AX q → A0 q)
    (kx : ∀ (E : String) (ce : Cell) (q9 : Addr) (u : SX) (t : State) (H1 : Heap) (locs1 : List Loc), t.heap = H1 → s.vm.Alike t.vm → px u → BX E u t → H.size ≤ H1.size → (∀ q : Nat, q < H.size → ¬ AX q → H1[q]? = H[q]?) → va_S A0 H0 H1 locs1 → H1[q9]? = some ce → ce.vm = .none → s.vm.findClass E = some ce.cls → vx_W p l e R s m args below meth c H1 locs1 (cells + mc) (slots + ms) Q (F0 m pc ls rest) q9)
    (kk : ∀ (r : Int64) (u : S) (t : State) (H1 : Heap) (locs1 : List Loc), t.heap = H1 → s.vm.Alike t.vm → post r u → B u t → H.size ≤ H1.size → (∀ q : Nat, q < H.size → ¬ A1 q → H1[q]? = H[q]?) → va_S A0 H0 H1 locs1 → W p l e R s m args below meth c H1 locs1 (cells + mc) (slots + ms) Q (F0 m (pc + 3) ls (.long r :: rest))) : W p l e R s m args below meth c H locs cells slots Q (F0 m pc ls st0) := by
  intro T hT X
  rcases hr T hT X with ⟨v, st₀, t, T', L, h0, X', hL, e1, e2, ⟨⟨r, u, hv, hp, hb⟩, hF⟩, st⟩ | ⟨q, st₀, t, T', L, E, ce, h0, X', hL, e1, e2, ⟨u, hp, hb, hF⟩, hce, hcv, hcl, st⟩
  · cases hv
    obtain ⟨k1, k2, k3⟩ := vx_keep h0 e1 hS hA hf hL hF
    obtain ⟨t2, a1, b1⟩ := kk r u t T'.heap (locs ++ L) e1.symm (by rw [← e2]; exact X'.warmed.alike) hp hb k1 k2 k3 T' rfl X'
    exact ⟨t2, st t2 a1, b1⟩
  · obtain ⟨k1, k2, k3⟩ := vx_keep h0 e1 hS hAX hf hL hF
    obtain ⟨t2, a1, b1⟩ := kx E ce q u t T'.heap (locs ++ L) e1.symm (by rw [← e2]; exact X'.warmed.alike) hp hb k1 k2 k3 (by rw [e1]; exact hce) hcv hcl T' rfl X'
    exact ⟨t2, st.trans a1, b1⟩
theorem vx_callf {S SX : Type} {post : UInt32 → S → Prop} {px : SX → Prop} {B : S → State → Prop} {BX : String → SX → State → Prop} {AX : Nat → Prop} (hr : vx_Run p l e R s m args below meth c H locs cells slots mc ms (F0 m pc ls st0) rest (va_Qf post B A1 a) (vx_X px BX AX) free) (hS : va_S A0 H0 H locs) (hA : ∀ q, q < H.size → A1 q → A0 q) (hf : ∀ q, free q → A0 q) (hAX : ∀ q, q < H.size → AX q → A0 q)
    (kx : ∀ (E : String) (ce : Cell) (q9 : Addr) (u : SX) (t : State) (H1 : Heap) (locs1 : List Loc), t.heap = H1 → s.vm.Alike t.vm → px u → BX E u t → H.size ≤ H1.size → (∀ q : Nat, q < H.size → ¬ AX q → H1[q]? = H[q]?) → va_S A0 H0 H1 locs1 → H1[q9]? = some ce → ce.vm = .none → s.vm.findClass E = some ce.cls → vx_W p l e R s m args below meth c H1 locs1 (cells + mc) (slots + ms) Q (F0 m pc ls rest) q9)
    (kk : ∀ (r : UInt32) (u : S) (t : State) (H1 : Heap) (locs1 : List Loc), t.heap = H1 → s.vm.Alike t.vm → post r u → B u t → H.size ≤ H1.size → (∀ q : Nat, q < H.size → ¬ A1 q → H1[q]? = H[q]?) → va_S A0 H0 H1 locs1 → W p l e R s m args below meth c H1 locs1 (cells + mc) (slots + ms) Q (F0 m (pc + 3) ls (.float r :: rest))) : W p l e R s m args below meth c H locs cells slots Q (F0 m pc ls st0) := by
  intro T hT X
  rcases hr T hT X with ⟨v, st₀, t, T', L, h0, X', hL, e1, e2, ⟨⟨r, u, hv, hp, hb⟩, hF⟩, st⟩ | ⟨q, st₀, t, T', L, E, ce, h0, X', hL, e1, e2, ⟨u, hp, hb, hF⟩, hce, hcv, hcl, st⟩
  · cases hv
    obtain ⟨k1, k2, k3⟩ := vx_keep h0 e1 hS hA hf hL hF
    obtain ⟨t2, a1, b1⟩ := kk r u t T'.heap (locs ++ L) e1.symm (by rw [← e2]; exact X'.warmed.alike) hp hb k1 k2 k3 T' rfl X'
    exact ⟨t2, st t2 a1, b1⟩
  · obtain ⟨k1, k2, k3⟩ := vx_keep h0 e1 hS hAX hf hL hF
    obtain ⟨t2, a1, b1⟩ := kx E ce q u t T'.heap (locs ++ L) e1.symm (by rw [← e2]; exact X'.warmed.alike) hp hb k1 k2 k3 (by rw [e1]; exact hce) hcv hcl T' rfl X'
    exact ⟨t2, st.trans a1, b1⟩
theorem vx_calld {S SX : Type} {post : UInt64 → S → Prop} {px : SX → Prop} {B : S → State → Prop} {BX : String → SX → State → Prop} {AX : Nat → Prop} (hr : vx_Run p l e R s m args below meth c H locs cells slots mc ms (F0 m pc ls st0) rest (va_Qd post B A1 a) (vx_X px BX AX) free) (hS : va_S A0 H0 H locs) (hA : ∀ q, q < H.size → A1 q → A0 q) (hf : ∀ q, free q → A0 q) (hAX : ∀ q, q < H.size → AX q → A0 q)
    (kx : ∀ (E : String) (ce : Cell) (q9 : Addr) (u : SX) (t : State) (H1 : Heap) (locs1 : List Loc), t.heap = H1 → s.vm.Alike t.vm → px u → BX E u t → H.size ≤ H1.size → (∀ q : Nat, q < H.size → ¬ AX q → H1[q]? = H[q]?) → va_S A0 H0 H1 locs1 → H1[q9]? = some ce → ce.vm = .none → s.vm.findClass E = some ce.cls → vx_W p l e R s m args below meth c H1 locs1 (cells + mc) (slots + ms) Q (F0 m pc ls rest) q9)
    (kk : ∀ (r : UInt64) (u : S) (t : State) (H1 : Heap) (locs1 : List Loc), t.heap = H1 → s.vm.Alike t.vm → post r u → B u t → H.size ≤ H1.size → (∀ q : Nat, q < H.size → ¬ A1 q → H1[q]? = H[q]?) → va_S A0 H0 H1 locs1 → W p l e R s m args below meth c H1 locs1 (cells + mc) (slots + ms) Q (F0 m (pc + 3) ls (.double r :: rest))) : W p l e R s m args below meth c H locs cells slots Q (F0 m pc ls st0) := by
  intro T hT X
  rcases hr T hT X with ⟨v, st₀, t, T', L, h0, X', hL, e1, e2, ⟨⟨r, u, hv, hp, hb⟩, hF⟩, st⟩ | ⟨q, st₀, t, T', L, E, ce, h0, X', hL, e1, e2, ⟨u, hp, hb, hF⟩, hce, hcv, hcl, st⟩
  · cases hv
    obtain ⟨k1, k2, k3⟩ := vx_keep h0 e1 hS hA hf hL hF
    obtain ⟨t2, a1, b1⟩ := kk r u t T'.heap (locs ++ L) e1.symm (by rw [← e2]; exact X'.warmed.alike) hp hb k1 k2 k3 T' rfl X'
    exact ⟨t2, st t2 a1, b1⟩
  · obtain ⟨k1, k2, k3⟩ := vx_keep h0 e1 hS hAX hf hL hF
    obtain ⟨t2, a1, b1⟩ := kx E ce q u t T'.heap (locs ++ L) e1.symm (by rw [← e2]; exact X'.warmed.alike) hp hb k1 k2 k3 (by rw [e1]; exact hce) hcv hcl T' rfl X'
    exact ⟨t2, st.trans a1, b1⟩
theorem vx_callv {S SX : Type} {post : S → Prop} {px : SX → Prop} {B : S → State → Prop} {BX : String → SX → State → Prop} {AX : Nat → Prop} (hr : vx_Run p l e R s m args below meth c H locs cells slots mc ms (F0 m pc ls st0) rest (va_Qv post B A1 a) (vx_X px BX AX) free) (hS : va_S A0 H0 H locs) (hA : ∀ q, q < H.size → A1 q → A0 q) (hf : ∀ q, free q → A0 q) (hAX : ∀ q, q < H.size → AX q → A0 q)
    (kx : ∀ (E : String) (ce : Cell) (q9 : Addr) (u : SX) (t : State) (H1 : Heap) (locs1 : List Loc), t.heap = H1 → s.vm.Alike t.vm → px u → BX E u t → H.size ≤ H1.size → (∀ q : Nat, q < H.size → ¬ AX q → H1[q]? = H[q]?) → va_S A0 H0 H1 locs1 → H1[q9]? = some ce → ce.vm = .none → s.vm.findClass E = some ce.cls → vx_W p l e R s m args below meth c H1 locs1 (cells + mc) (slots + ms) Q (F0 m pc ls rest) q9)
    (kk : ∀ (u : S) (t : State) (H1 : Heap) (locs1 : List Loc), t.heap = H1 → s.vm.Alike t.vm → post u → B u t → H.size ≤ H1.size → (∀ q : Nat, q < H.size → ¬ A1 q → H1[q]? = H[q]?) → va_S A0 H0 H1 locs1 → W p l e R s m args below meth c H1 locs1 (cells + mc) (slots + ms) Q (F0 m (pc + 3) ls (rest))) : W p l e R s m args below meth c H locs cells slots Q (F0 m pc ls st0) := by
  intro T hT X
  rcases hr T hT X with ⟨v, st₀, t, T', L, h0, X', hL, e1, e2, ⟨⟨u, hv, hp, hb⟩, hF⟩, st⟩ | ⟨q, st₀, t, T', L, E, ce, h0, X', hL, e1, e2, ⟨u, hp, hb, hF⟩, hce, hcv, hcl, st⟩
  · cases hv
    obtain ⟨k1, k2, k3⟩ := vx_keep h0 e1 hS hA hf hL hF
    obtain ⟨t2, a1, b1⟩ := kk u t T'.heap (locs ++ L) e1.symm (by rw [← e2]; exact X'.warmed.alike) hp hb k1 k2 k3 T' rfl X'
    exact ⟨t2, st t2 a1, b1⟩
  · obtain ⟨k1, k2, k3⟩ := vx_keep h0 e1 hS hAX hf hL hF
    obtain ⟨t2, a1, b1⟩ := kx E ce q u t T'.heap (locs ++ L) e1.symm (by rw [← e2]; exact X'.warmed.alike) hp hb k1 k2 k3 (by rw [e1]; exact hce) hcv hcl T' rfl X'
    exact ⟨t2, st.trans a1, b1⟩
/-- caught by the row x of this method's table; the rows ahead don't take it -/
theorem vx_catch {own name : String} {E : String} {ce : Cell} {q : Addr} (hown : s.vm.findClass own = some m.cls) (pre : List ExceptionTableEntry) (x : ExceptionTableEntry) (suf : List ExceptionTableEntry) (hsplit : c.exceptionTable.toList = pre ++ x :: suf)
    (hpass : ∀ z ∈ pre, covers z pc = false ∨ (z.catchType ≠ 0 ∧ ∃ nm : String, (Cond.classLink own z.catchType nm).before args s = true ∧ va_Nc E nm s)) (hx : covers x pc = true) (h0 : x.catchType ≠ 0)
    (hlink : (Cond.classLink own x.catchType name).before args s = true) (hcast : (Cond.castable E name).before args s = true) (hcell : H[q]? = some ce) (hv : ce.vm = .none) (hcl : s.vm.findClass E = some ce.cls)
    (kk : W p l e R s m args below meth c H locs cells slots Q (F0 m x.handlerPc ls [.ref q])) : vx_W p l e R s m args below meth c H locs cells slots Q (F0 m pc ls rest) q := by
  intro T hT X
  have hpl : e.platform.magicAccessors = ({} : Platform).magicAccessors := by rw [X.admits.platform]
  obtain ⟨c3, c4, hc3, hc4, hasg⟩ := Cond.castable_spec hcast
  cases Option.some.inj (hc3.symm.trans hcl)
  obtain ⟨c5, hc5, hcl5⟩ := Cond.classLink_spec hown hlink e.platform hpl
  cases Option.some.inj (hc4.symm.trans hc5)
  obtain ⟨vm', X', st⟩ := X.thenCaughtThrough q (g := F0 m pc ls rest) rfl (Steps.refl _) (by rw [hT]; exact hcell) (by rw [hv]; rfl) (by obtain ⟨k9, h9, -⟩ := Vm.findClass_spec hcl; exact ⟨k9, h9⟩) pre x suf hsplit
    (fun z hz => by
      rcases hpass z hz with h | ⟨hz0, nm, hl1, hn1⟩
      · exact Or.inl h
      · obtain ⟨c6, hc6, hcl6⟩ := Cond.classLink_spec hown hl1 e.platform hpl
        obtain ⟨a8, b8, h1, h2, h3⟩ := hn1
        cases Option.some.inj (h1.symm.trans hcl)
        cases Option.some.inj (h2.symm.trans hc6)
        exact Or.inr ⟨hz0, _, hcl6, h3⟩) hx (Or.inr ⟨h0, c4, hcl5, hasg⟩)
  obtain ⟨t, a1, b1⟩ := kk (T.setVm vm') hT X'
  exact ⟨t, st.trans a1, b1⟩
end Rows
section Ends
variable {p : Program} {l : Launch} {e : Env} {R : Room} {s : State} {m : MethodId} {args : Array Value} {below : List Frame} {meth : Method} {c : Code} {H : Heap} {locs : List Loc} {cells slots : Nat} {Q : State → Prop}
variable {mc ms : Nat} {free : Addr → Prop} {A0 A1 : Nat → Prop} {H0 : Heap} {a : Array Value} {ls : Array Slot} {st0 rest : List Value}
variable {Qc : Array Value → State → Outcome → State → Prop} {XC : String → State → State → Prop}
/-- what a body that may throw owes at its end -/
def vx_MQ (below : List Frame) (Qc : Array Value → State → Outcome → State → Prop) (XC : String → State → State → Prop) (a : Array Value) (s : State) (mc ms : Nat) (free : Addr → Prop) : State → Prop := fun t =>
  ∃ o, t.status = .running ∧ Ended t below o ∧ vx_Q Qc XC mc ms free a s o t
theorem vx_ret {g : JFrame} {mc ms : Nat} (k : W p l e R s m args below meth c H locs cells slots (MQ below Qc args s mc ms free) g) : W p l e R s m args below meth c H locs cells slots (vx_MQ below Qc XC args s mc ms free) g := by
  intro T hT X
  obtain ⟨t, a1, o, b1, b2, b3, b4⟩ := k T hT X
  exact ⟨t, a1, o, b1, b2, Or.inl ⟨b3, b4⟩⟩
/-- not caught here: it goes on to the caller -/
theorem vx_widen {g : JFrame} {q : Addr} {k n : Nat} (h1 : cells ≤ k) (h2 : slots ≤ n) (kk : vx_W p l e R s m args below meth c H locs k n Q g q) : vx_W p l e R s m args below meth c H locs cells slots Q g q := fun T hT X => kk T hT (stand_widen X h1 h2)
theorem vx_out {pc : Nat} {E : String} {ce : Cell} {q : Addr} {mc ms : Nat} (hout : ∀ x ∈ c.exceptionTable.toList, covers x pc = false) (hlocks : meth.locks = false) (hcell : H[q]? = some ce) (hv : ce.vm = .none) (hcl : s.vm.findClass E = some ce.cls)
    (hx : ∀ t : State, t.heap = H → s.vm.Alike t.vm → XC E s t) (hf : ∀ z ∈ locs, free z.base) (hc : cells ≤ mc) (hs : slots ≤ ms) :
    vx_W p l e R s m args below meth c H locs cells slots (vx_MQ below Qc XC args s mc ms free) (F0 m pc ls rest) q := by
  intro T hT X
  obtain ⟨st1, hrun, hend, hW, hsm⟩ := X.leaveThrown q (g := F0 m pc ls rest) rfl rfl rfl hout hlocks
  have hcell9 : (T.setFrames (.throwing q :: below)).heap[q]? = some ce := by
    show T.heap[q]? = some ce
    rw [hT]; exact hcell
  exact ⟨_, st1, .threw q, hrun, hend, Or.inr ⟨q, rfl, E, ce, locs, hx _ hT hW.alike, hcell9, hv, hcl, hW, hsm.mono hc hs, hf⟩⟩
theorem vx_frame {U : State} {k n : Nat} (h : s.sameButNew ({ U with vm := s.vm } : State) locs k n) : s.heap.size ≤ U.heap.size ∧ ∀ q : Nat, q < s.heap.size → (∀ z ∈ locs, z.base ≠ q) → U.heap[q]? = s.heap[q]? := by
  obtain ⟨-, h2, -, -, -, h6⟩ := h
  refine ⟨h2, fun q hq hz => ?_⟩
  obtain ⟨c9, e1, e2, e3, e4⟩ := h6 q _ (Array.getElem?_eq_getElem hq)
  have hs : c9.slots = (s.heap[q]).slots := Array.ext_getElem? fun i => e4 i fun hm => hz _ hm rfl
  have h9 : c9 = s.heap[q] := by
    rw [hs] at e2
    exact e2
  have e5 : U.heap[q]? = some c9 := e1
  rw [e5, h9, Array.getElem?_eq_getElem hq]
/-- the words of a throw but the four that speak of the heap -/
def vx_no (w : Cond) : Bool := decide (w ≠ .isRef (.static Bundle.tN "UNASSIGNED_STACK" Bundle.steD)) && decide (w ≠ .isRef (.static Bundle.tN "SUPPRESSED_SENTINEL" Bundle.listD)) && decide (w ≠ .laysStatic Bundle.tN "UNASSIGNED_STACK" Bundle.steD) && decide (w ≠ .laysStatic Bundle.tN "SUPPRESSED_SENTINEL" Bundle.listD)
def vx_at0 (own : String) (ic : Nat) (X : String) (names : List String) : List Cond := (Bundle.ownAtoms0 own ic X names).filter vx_no
def vx_atS (own : String) (ic : Nat) (X : String) (names : List String) : List Cond := (Bundle.ownAtoms own ic X names).filter vx_no
/-- a word that the tables alone decide, or a good one -/
def vx_ot (w : Cond) : Bool := w.onTables || goodWord w
theorem vx_ot_at {args a' : Array Value} {s U : State} {w : Cond} (hW : s.WarmedH U.vm) (hvm : s.vm = U.vm) (hg : vx_ot w = true) (h : w.before args s = true) : w.before a' U = true := by
  simp only [vx_ot, Bool.or_eq_true] at hg
  rcases hg with hg | hg
  · exact va_tabs hg hvm h
  · exact word_at hW (good_of_word hg) h
/-- a list's words: the good ones out of the method's own list, the others by premises of their own -/
theorem vx_hat {args : Array Value} {s : State} {L B : List Cond} (h1 : ∀ w ∈ L.filter goodWord, w.before args s = true) (h2 : ∀ w ∈ L.filter (fun w => !goodWord w), w ∈ B) (h3 : ∀ w ∈ B, w.before args s = true) : ∀ w ∈ L, w.before args s = true := by
  intro w hw
  by_cases g : goodWord w = true
  · exact h1 w (List.mem_filter.mpr ⟨hw, g⟩)
  · refine h3 w (h2 w (List.mem_filter.mpr ⟨hw, ?_⟩))
    show (!goodWord w) = true
    cases hgw : goodWord w
    · rfl
    · exact absurd hgw g
theorem vx_c {args : Array Value} {s : State} {w : Cond} {B : List Cond} (h : w.before args s = true) (t : ∀ w ∈ B, w.before args s = true) : ∀ w' ∈ w :: B, w'.before args s = true := fun w' h' => (List.mem_cons.mp h').elim (fun e => by rw [e]; exact h) (t w')
theorem vx_n {args : Array Value} {s : State} : ∀ w ∈ ([] : List Cond), w.before args s = true := fun _ h => nomatch h
theorem vx_own {args : Array Value} {s : State} {L : List Cond} (h1 : ∀ w ∈ L.filter vx_no, w.before args s = true)
    (hU : (Cond.isRef (.static Bundle.tN "UNASSIGNED_STACK" Bundle.steD)).before args s = true) (hN : (Cond.isRef (.static Bundle.tN "SUPPRESSED_SENTINEL" Bundle.listD)).before args s = true)
    (lU : (Cond.laysStatic Bundle.tN "UNASSIGNED_STACK" Bundle.steD).before args s = true) (lN : (Cond.laysStatic Bundle.tN "SUPPRESSED_SENTINEL" Bundle.listD).before args s = true) : ∀ w ∈ L, w.before args s = true := by
  intro w hw
  by_cases e1 : w = .isRef (.static Bundle.tN "UNASSIGNED_STACK" Bundle.steD)
  · rw [e1]; exact hU
  · by_cases e2 : w = .isRef (.static Bundle.tN "SUPPRESSED_SENTINEL" Bundle.listD)
    · rw [e2]; exact hN
    · by_cases e3 : w = .laysStatic Bundle.tN "UNASSIGNED_STACK" Bundle.steD
      · rw [e3]; exact lU
      · by_cases e4 : w = .laysStatic Bundle.tN "SUPPRESSED_SENTINEL" Bundle.listD
        · rw [e4]; exact lN
        · exact h1 w (List.mem_filter.mpr ⟨hw, by unfold vx_no; rw [decide_eq_true e1, decide_eq_true e2, decide_eq_true e3, decide_eq_true e4]; rfl⟩)
/-- where a static field lies, its class's statics cell in H -/
def vx_L (C n d : String) (A : Nat → Prop) (U : State) (H : Heap) : Prop := ∃ (c : ClassId) (k : Class) (i : Nat) (f : Field) (a : Nat) (cell : Cell), U.vm.findClass C = some c ∧ U.fieldFound? C n d = some (c, k, i, f) ∧ f.isStatic = true ∧ k.statics = some a ∧ H[a]? = some cell ∧ cell.vm.isStatics = true ∧ cell.cls = c ∧ f.slot < cell.slots.size ∧ k.staticTypes[f.slot]? = some f.type ∧ ¬ A a
theorem vx_L.moved {C n d : String} {A : Nat → Prop} {u U : State} {H : Heap} (hvm : u.vm.Alike U.vm) (h : vx_L C n d A u H) : vx_L C n d A U H := by
  obtain ⟨c, k, i, f, a, cell, h1, h2, h3, h4, h5, h6, h7, h8, h9, h10⟩ := h
  obtain ⟨k', hi', he⟩ := State.fieldFound?_setVm hvm h2
  exact ⟨c, k', i, f, a, cell, by rw [hvm.findClass]; exact h1, hi', h3, by rw [he]; exact h4, h5, h6, h7, h8, by rw [he]; exact h9, h10⟩
theorem vx_L.kept {C n d : String} {A : Nat → Prop} {U : State} {H H1 : Heap} (h : vx_L C n d A U H) (hq : ∀ a : Nat, a < H.size → ¬ A a → H1[a]? = H[a]?) : vx_L C n d A U H1 := by
  obtain ⟨c, k, i, f, a, cell, h1, h2, h3, h4, h5, h6, h7, h8, h9, h10⟩ := h
  exact ⟨c, k, i, f, a, cell, h1, h2, h3, h4, by rw [hq a (Array.getElem?_eq_some_iff.mp h5).1 h10]; exact h5, h6, h7, h8, h9, h10⟩
theorem vx_L.narrow {C n d : String} {A B : Nat → Prop} {U : State} {H : Heap} (h : vx_L C n d A U H) (hAB : ∀ q, B q → A q) : vx_L C n d B U H := by
  obtain ⟨c, k, i, f, a, cell, h1, h2, h3, h4, h5, h6, h7, h8, h9, h10⟩ := h
  exact ⟨c, k, i, f, a, cell, h1, h2, h3, h4, h5, h6, h7, h8, h9, fun z => h10 (hAB _ z)⟩
theorem vx_L.word {C n d : String} {A : Nat → Prop} {s : State} {args : Array Value} (h : vx_L C n d A s s.heap) : (Cond.laysStatic C n d).before args s = true := by
  obtain ⟨c, k, i, f, a, cell, h1, h2, h3, h4, h5, h6, h7, h8, h9, -⟩ := h
  show (Cond.laysStatic C n d).holds args s none s [] = true
  exact Cond.laysStatic_of h1 h2 h3 h4 h5 h6 h7 h8 h9
/-- .. and what it holds: null or some reference -/
def vx_Zq (C n d : String) (A : Nat → Prop) (U : State) (H : Heap) : Prop := va_Zq C n d A U H ∧ vx_L C n d A U H
theorem vx_Zq.moved {C n d : String} {A : Nat → Prop} {u U : State} {H : Heap} (hvm : u.vm.Alike U.vm) (h : vx_Zq C n d A u H) : vx_Zq C n d A U H := ⟨va_Zq.moved hvm h.1, vx_L.moved hvm h.2⟩
theorem vx_Zq.kept {C n d : String} {A : Nat → Prop} {U : State} {H H1 : Heap} (h : vx_Zq C n d A U H) (hq : ∀ a : Nat, a < H.size → ¬ A a → H1[a]? = H[a]?) : vx_Zq C n d A U H1 := ⟨va_Zq.kept h.1 hq, vx_L.kept h.2 hq⟩
theorem vx_Zq.narrow {C n d : String} {A B : Nat → Prop} {U : State} {H : Heap} (h : vx_Zq C n d A U H) (hAB : ∀ q, B q → A q) : vx_Zq C n d B U H := ⟨va_Zq.narrow h.1 hAB, vx_L.narrow h.2 hAB⟩
theorem vx_Zqof {args : Array Value} {s : State} {C n d : String} {A : Nat → Prop} (hl : (Cond.laysStatic C n d).before args s = true) (hini : (Cond.initialized C).before args s = true) (h : (Cond.isRef (.static C n d)).before args s = true) (hA : ∀ a : Nat, a < s.heap.size → ¬ A a) : vx_Zq C n d A s s.heap := by
  refine ⟨va_Zqof hl hini h hA, ?_⟩
  obtain ⟨c, k, i, f, a, cell, h1, h2, h3, h4, h5, h6, h7, h8, h9⟩ := Cond.laysStatic_spec hl
  exact ⟨c, k, i, f, a, cell, h1, h2, h3, h4, h5, h6, h7, h8, h9, hA a (Array.getElem?_eq_some_iff.mp h5).1⟩
theorem vx_isRef {C n d : String} {v : Value} {A : Nat → Prop} {s : State} {args : Array Value} (h : va_Z C n d v A s s.heap) (hv : v.isRef = true) : (Cond.isRef (.static C n d)).before args s = true := by
  obtain ⟨cf, kf, fi, f, a, cell, h1, h2, h3, h4, h5, h6, h7, -⟩ := h
  have he : (Term.static C n d).eval args s none [] s = some v := by
    simp [Term.eval, State.fieldNamed?, h1, h2, h4, h5, h6, h7]
  simp only [Cond.before, Cond.holds, Cond.value, he]
  cases v <;> simp_all [Value.isRef]
theorem vx_isRefq {C n d : String} {A : Nat → Prop} {s : State} {args : Array Value} (h : va_Zq C n d A s s.heap) : (Cond.isRef (.static C n d)).before args s = true := by
  rcases h with h | ⟨t, h⟩
  · exact vx_isRef h rfl
  · exact vx_isRef h rfl
/-- the same frame, seen from here: as if the method were called anew in this heap -/
theorem vx_rebase {T : State} (X : Stand p l e R s m args below meth c T locs cells slots) {R' : Room} (hf : R'.frames ≤ R.frames) (hl : R'.locals ≤ R.locals) (hc : cells + R'.cells ≤ R.cells) (hs : slots + R'.slots ≤ R.slots) :
    Stand p l e R' ((T.setVm s.vm).setFrames (.invoking m args :: below)) m args below meth c T [] 0 0 := by
  have htop : (T.setVm s.vm).topJava?.isSome := X.here.top
  have hF : ((T.setVm s.vm).setFrames (.invoking m args :: below)).frames = .invoking m args :: below := State.frames_setFrames _ (State.cur_lt_of_top htop)
  obtain ⟨g₀, hg0⟩ := Option.isSome_iff_exists.mp htop
  obtain ⟨r, hr⟩ := State.topJava?_eq_some.mp hg0
  have hl9 : e.platform.stackLimits (T.setVm s.vm).me = e.platform.stackLimits s.me := X.limits
  have hb9 : (T.setVm s.vm).me.stackBytes = s.me.stackBytes := X.bytes
  refine ⟨X.admits, X.cas, X.clock, hF, ?_, X.hears, X.method, X.code, X.here, X.tail, X.warmed, ?_, ?_, ?_⟩
  · have h := X.room
    have hU : ((T.setVm s.vm).setFrames (.invoking m args :: below)).localsInUse = s.localsInUse := by
      rw [State.localsInUse_invoking hF (meth := meth) (c := c) X.method X.code, State.localsInUse_invoking X.frames X.method X.code]
    simp only [State.hasRoom, Bool.and_eq_true, decide_eq_true_eq] at h ⊢
    obtain ⟨⟨⟨⟨h1, h2, h3, h4, h5, h6⟩, h7⟩, h8⟩, h9⟩ := h
    rw [X.frames, List.length_cons] at h2 h3
    have q1 := X.heapSize
    have q2 := X.used
    simp only [hF, hU, List.length_cons, State.stackLimits_setFrames, State.stackBytes_setFrames, hl9, hb9]
    refine ⟨⟨⟨⟨by omega, by omega, by omega, by omega, by omega, h6⟩, ?_⟩, ?_⟩, X.book⟩
    · show T.heap.size + R'.cells ≤ e.platform.maxCells
      omega
    · show T.slotsUsed + R'.slots ≤ e.platform.maxSlots
      omega
  · rw [State.stackLimits_setFrames]; rfl
  · rw [State.stackBytes_setFrames]; rfl
  · refine ⟨?_, Nat.le_refl _, Nat.le_refl _, ?_, ?_, fun a c9 h9 => ⟨c9, h9, rfl, rfl, fun _ _ => rfl⟩⟩
    · obtain ⟨t, ht, -⟩ := State.frames_cons hr
      show T.setVm s.vm = { ((T.setVm s.vm).setFrames (.invoking m args :: below)).setFrames (T.setVm s.vm).frames with heap := T.heap, slotsUsed := T.slotsUsed }
      rw [State.setFrames_setFrames, State.setFrames_self ht]
      rfl
    · show T.slotsUsed = T.slotsUsed + ((T.heap.toList.drop T.heap.size).map (·.slots.size)).sum
      rw [List.drop_eq_nil_of_le (Nat.le_of_eq Array.length_toList)]
      rfl
    · show ((T.heap.toList.drop T.heap.size).map (·.slots.size)).sum ≤ 0
      rw [List.drop_eq_nil_of_le (Nat.le_of_eq Array.length_toList)]
      exact Nat.le_refl _
/-- 'throw new E()': new; dup; invokespecial; athrow -/
theorem vx_throw0 {cc : ByteArray} {pc : Nat} (hexec : p.tables.exec = Jvm.exec) (hb : c.code = cc) (hl : l.stackTraces = false) {own cls : String} {names : List String} {ik ic mc ms : Nat} {A : Nat → Prop}
    (hown : s.vm.findClass own = some m.cls) (hcls : Bundle.fit cls = true) (hnames : ∀ n ∈ names, Bundle.fit n = true)
    (hk : (Cond.classLink own ik cls).before args s = true) (hini : (Cond.initialized cls).before args s = true) (hat : ∀ w ∈ vx_at0 own ic cls names, w.before args s = true)
    (hgood : ∀ w ∈ Cond.classLink own ik cls :: Cond.initialized cls :: vx_at0 own ic cls names, vx_ot w = true)
    (hU : vx_Zq Bundle.tN "UNASSIGNED_STACK" Bundle.steD A s s.heap) (hN : vx_Zq Bundle.tN "SUPPRESSED_SENTINEL" Bundle.listD A s s.heap) (hS : va_S A s.heap H locs) (hsize : ls.size = c.maxLocals)
    (d0 : decode cc pc = .ok (.new ik, 3)) (d3 : decode cc (pc + 3) = .ok (.dup, 1)) (d4 : decode cc (pc + 4) = .ok (.invokespecial ic, 3)) (d7 : decode cc (pc + 7) = .ok (.athrow, 1))
    (hout : ∀ x ∈ c.exceptionTable.toList, covers x (pc + 7) = false)
    (hRframes : names.length + 3 < R.frames) (hRlocals : (rest.map fun v => v.category).sum + (13 * (names.length + 1) + 42) ≤ R.locals) (hRcells : cells + 1 ≤ R.cells) (hRslots : slots + 6 ≤ R.slots) (hlocks : meth.locks = false)
    (hx : ∀ t : State, s.vm.Alike t.vm → H.size ≤ t.heap.size → (∀ q : Nat, q < H.size → t.heap[q]? = H[q]?) → XC cls s t)
    (hf : ∀ z ∈ locs, free z.base) (hc : cells + 1 ≤ mc) (hs : slots + 6 ≤ ms) :
    W p l e R s m args below meth c H locs cells slots (vx_MQ below Qc XC args s mc ms free) (F0 m pc ls rest) := by
  intro T hT X
  have htr : e.platform.stackTraces = false := (show e.platform.stackTraces = l.stackTraces by rw [X.admits.platform]).trans hl
  have Y := vx_rebase X (R' := { frames := R.frames, locals := R.locals, cells := 1, slots := 6 }) (Nat.le_refl _) (Nat.le_refl _) hRcells hRslots
  obtain ⟨s', hA⟩ : ∃ z, z = (T.setVm s.vm).setFrames (.invoking m args :: below) := ⟨_, rfl⟩
  rw [← hA] at Y
  have hvm : s'.vm = s.vm := by rw [hA]; rfl
  have hhp : s'.heap = H := by rw [hA]; exact hT
  have hW0 : s.WarmedH s'.vm := by rw [hvm]; exact State.WarmedH.refl s
  have hat' : ∀ w ∈ vx_at0 own ic cls names, w.before args s' = true := fun w hw => vx_ot_at hW0 hvm.symm (hgood w (List.mem_cons_of_mem _ (List.mem_cons_of_mem _ hw))) (hat w hw)
  have hk' : (Cond.classLink own ik cls).before args s' = true := vx_ot_at hW0 hvm.symm (hgood _ List.mem_cons_self) hk
  have hini' : (Cond.initialized cls).before args s' = true := vx_ot_at hW0 hvm.symm (hgood _ (List.mem_cons_of_mem _ List.mem_cons_self)) hini
  have hU' : vx_Zq Bundle.tN "UNASSIGNED_STACK" Bundle.steD A s' s'.heap := by rw [hhp]; exact vx_Zq.moved hW0.alike (hU.kept hS.2.1)
  have hN' : vx_Zq Bundle.tN "SUPPRESSED_SENTINEL" Bundle.listD A s' s'.heap := by rw [hhp]; exact vx_Zq.moved hW0.alike (hN.kept hS.2.1)
  have h : ∀ w ∈ Bundle.ownAtoms0 own ic cls names, w.before args s' = true := vx_own hat' (vx_isRefq hU'.1) (vx_isRefq hN'.1) hU'.2.word hN'.2.word
  have hown' : s'.vm.findClass own = some m.cls := by rw [hvm]; exact hown
  have hins : (Cond.instantiable cls 6).before args s' = true := h _ (by simp [Bundle.ownAtoms0])
  obtain ⟨vm₁, cX, kX, hfX, hkX, -, -, X₁, st1⟩ := Y.newCold hexec (own := own) (C := cls) (index := ik) (n := 6) hown' hk' hins hini'
    (g := F0 m pc ls rest) rfl (by rw [hb]; exact d0) (Nat.le_refl _) (Nat.le_refl _)
  generalize hT1 : (T.setVm vm₁).pushCell { cls := cX, slots := kX.instanceTypes.map defaultValue, vm := .none } = T1 at X₁ st1
  have hcat : (Value.ref T.heap.size).category = 1 := rfl
  have hcellA : T1.heap[T.heap.size]? = some (freshCell cX kX) := by rw [← hT1]; exact State.heap_pushCell_size _ _
  have d3' : decode c.code (pc + 3) = .ok (.dup, 1) := by rw [hb]; exact d3
  obtain ⟨U, hsteps, hrun, hend, hW, hsame, ce, hce, hO⟩ := X₁.ctorThrow0 hexec htr (own := own) (cls := cls) (names := names) (ic := ic) hown' hcls hnames h (fun x hx => nomatch hx) hfX hkX hcellA (by rw [hhp, hT]; exact Nat.le_refl _)
    (g := { method := m, pc := pc + 4, locals := ls, stack := .ref T.heap.size :: .ref T.heap.size :: rest, locked := none }) rfl hsize rfl rfl (rest := rest) rfl
    (by rw [hb]; exact d4) (by rw [hb]; exact d7) hout hRframes (by simp only [List.map_cons, List.sum_cons, hcat]; omega) hlocks
  obtain ⟨f1, f2⟩ := vx_frame hsame
  rw [hhp] at f1 f2
  have hWs : s.WarmedH U.vm := State.WarmedH.trans hW0 hW
  have hcl : s.vm.findClass cls = some ce.cls := by
    have h9 := hO.cls
    rw [hvm] at h9
    exact h9
  have hall : s.sameButNew ({ U with vm := s.vm } : State) locs mc ms := by
    subst hA
    obtain ⟨e1, e2⟩ := hsame
    rw [State.setFrames_setFrames] at e1
    have h2 : (T.setVm s.vm).sameButNew ({ U with vm := s.vm } : State) [] (0 + 1) (0 + 6) := ⟨e1, e2⟩
    have h3 := X.same.trans h2
    rw [List.append_nil] at h3
    exact h3.mono hc hs
  refine ⟨U, ?_, .threw T.heap.size, hrun, hend, Or.inr ⟨T.heap.size, rfl, cls, ce, locs, hx U hWs.alike f1 (fun q hq => f2 q hq (fun z hz => nomatch hz)), hce, hO.vm, hcl, hWs, hall, hf⟩⟩
  refine st1 _ ?_
  show Steps p.tables e below (T1.setTop { method := m, pc := pc + 3, locals := ls, stack := .ref T.heap.size :: rest, locked := none }) _
  jvm_step X₁.here [X₁.here.top, hexec, d3', Value.category]
  exact hsteps
/-- 'throw new E("text")': new; dup; ldc; invokespecial; athrow -/
theorem vx_throwS {cc : ByteArray} {pc : Nat} (hexec : p.tables.exec = Jvm.exec) (hb : c.code = cc) (hl : l.stackTraces = false) {own cls text : String} {names : List String} {ik is ic mc ms sa : Nat} {A : Nat → Prop}
    (hown : s.vm.findClass own = some m.cls) (hcls : Bundle.fit cls = true) (hnames : ∀ n ∈ names, Bundle.fit n = true)
    (hk : (Cond.classLink own ik cls).before args s = true) (hini : (Cond.initialized cls).before args s = true) (hstr : vk_R own is text sa s) (hat : ∀ w ∈ vx_atS own ic cls names, w.before args s = true)
    (hgood : ∀ w ∈ Cond.classLink own ik cls :: Cond.initialized cls :: vx_atS own ic cls names, vx_ot w = true)
    (hU : vx_Zq Bundle.tN "UNASSIGNED_STACK" Bundle.steD A s s.heap) (hN : vx_Zq Bundle.tN "SUPPRESSED_SENTINEL" Bundle.listD A s s.heap) (hS : va_S A s.heap H locs) (hsize : ls.size = c.maxLocals)
    (d0 : decode cc pc = .ok (.new ik, 3)) (d3 : decode cc (pc + 3) = .ok (.dup, 1)) (d4 : decode cc (pc + 4) = .ok (.ldc is, 2)) (d6 : decode cc (pc + 6) = .ok (.invokespecial ic, 3)) (d9 : decode cc (pc + 9) = .ok (.athrow, 1))
    (hout : ∀ x ∈ c.exceptionTable.toList, covers x (pc + 9) = false)
    (hRframes : names.length + 3 < R.frames) (hRlocals : (rest.map fun v => v.category).sum + (13 * (names.length + 1) + 43) ≤ R.locals) (hRcells : cells + 1 ≤ R.cells) (hRslots : slots + 6 ≤ R.slots) (hlocks : meth.locks = false)
    (hx : ∀ t : State, s.vm.Alike t.vm → H.size ≤ t.heap.size → (∀ q : Nat, q < H.size → t.heap[q]? = H[q]?) → XC cls s t)
    (hf : ∀ z ∈ locs, free z.base) (hc : cells + 1 ≤ mc) (hs : slots + 6 ≤ ms) :
    W p l e R s m args below meth c H locs cells slots (vx_MQ below Qc XC args s mc ms free) (F0 m pc ls rest) := by
  intro T hT X
  have htr : e.platform.stackTraces = false := (show e.platform.stackTraces = l.stackTraces by rw [X.admits.platform]).trans hl
  have Y := vx_rebase X (R' := { frames := R.frames, locals := R.locals, cells := 1, slots := 6 }) (Nat.le_refl _) (Nat.le_refl _) hRcells hRslots
  obtain ⟨s', hA⟩ : ∃ z, z = (T.setVm s.vm).setFrames (.invoking m args :: below) := ⟨_, rfl⟩
  rw [← hA] at Y
  have hvm : s'.vm = s.vm := by rw [hA]; rfl
  have hhp : s'.heap = H := by rw [hA]; exact hT
  have hW0 : s.WarmedH s'.vm := by rw [hvm]; exact State.WarmedH.refl s
  have hat' : ∀ w ∈ vx_atS own ic cls names, w.before args s' = true := fun w hw => vx_ot_at hW0 hvm.symm (hgood w (List.mem_cons_of_mem _ (List.mem_cons_of_mem _ hw))) (hat w hw)
  have hk' : (Cond.classLink own ik cls).before args s' = true := vx_ot_at hW0 hvm.symm (hgood _ List.mem_cons_self) hk
  have hini' : (Cond.initialized cls).before args s' = true := vx_ot_at hW0 hvm.symm (hgood _ (List.mem_cons_of_mem _ List.mem_cons_self)) hini
  have hU' : vx_Zq Bundle.tN "UNASSIGNED_STACK" Bundle.steD A s' s'.heap := by rw [hhp]; exact vx_Zq.moved hW0.alike (hU.kept hS.2.1)
  have hN' : vx_Zq Bundle.tN "SUPPRESSED_SENTINEL" Bundle.listD A s' s'.heap := by rw [hhp]; exact vx_Zq.moved hW0.alike (hN.kept hS.2.1)
  have h : ∀ w ∈ Bundle.ownAtoms own ic cls names, w.before args s' = true := vx_own hat' (vx_isRefq hU'.1) (vx_isRefq hN'.1) hU'.2.word hN'.2.word
  have hown' : s'.vm.findClass own = some m.cls := by rw [hvm]; exact hown
  have hins : (Cond.instantiable cls 6).before args s' = true := h _ (by simp [Bundle.ownAtoms])
  obtain ⟨vm₁, cX, kX, hfX, hkX, -, -, X₁, st1⟩ := Y.newCold hexec (own := own) (C := cls) (index := ik) (n := 6) hown' hk' hins hini'
    (g := F0 m pc ls rest) rfl (by rw [hb]; exact d0) (Nat.le_refl _) (Nat.le_refl _)
  generalize hT1 : (T.setVm vm₁).pushCell { cls := cX, slots := kX.instanceTypes.map defaultValue, vm := .none } = T1 at X₁ st1
  have hcat : (Value.ref T.heap.size).category = 1 := rfl
  have hcellA : T1.heap[T.heap.size]? = some (freshCell cX kX) := by rw [← hT1]; exact State.heap_pushCell_size _ _
  have d3' : decode c.code (pc + 3) = .ok (.dup, 1) := by rw [hb]; exact d3
  have d4' : decode c.code (pc + 4) = .ok (.ldc is, 2) := by rw [hb]; exact d4
  have hstr' : vk_R own is text sa s' := vk_R.warm hW0 hstr
  obtain ⟨U, hsteps, hrun, hend, hW, hsame, ce, hce, hO⟩ := X₁.ctorThrowS hexec htr (own := own) (cls := cls) (names := names) (ic := ic) hown' hcls hnames h (fun x hx => nomatch hx) hfX hkX hcellA (by rw [hhp, hT]; exact Nat.le_refl _) (msg := .ref sa) rfl
    (g := { method := m, pc := pc + 6, locals := ls, stack := .ref sa :: .ref T.heap.size :: .ref T.heap.size :: rest, locked := none }) rfl hsize rfl rfl (rest := rest) rfl
    (by rw [hb]; exact d6) (by rw [hb]; exact d9) hout hRframes (by simp only [List.map_cons, List.sum_cons, hcat]; omega) hlocks
  obtain ⟨f1, f2⟩ := vx_frame hsame
  rw [hhp] at f1 f2
  have hWs : s.WarmedH U.vm := State.WarmedH.trans hW0 hW
  have hcl : s.vm.findClass cls = some ce.cls := by
    have h9 := hO.cls
    rw [hvm] at h9
    exact h9
  have hall : s.sameButNew ({ U with vm := s.vm } : State) locs mc ms := by
    subst hA
    obtain ⟨e1, e2⟩ := hsame
    rw [State.setFrames_setFrames] at e1
    have h2 : (T.setVm s.vm).sameButNew ({ U with vm := s.vm } : State) [] (0 + 1) (0 + 6) := ⟨e1, e2⟩
    have h3 := X.same.trans h2
    rw [List.append_nil] at h3
    exact h3.mono hc hs
  refine ⟨U, ?_, .threw T.heap.size, hrun, hend, Or.inr ⟨T.heap.size, rfl, cls, ce, locs, hx U hWs.alike f1 (fun q hq => f2 q hq (fun z hz => nomatch hz)), hce, hO.vm, hcl, hWs, hall, hf⟩⟩
  refine st1 _ ?_
  show Steps p.tables e below (T1.setTop { method := m, pc := pc + 3, locals := ls, stack := .ref T.heap.size :: rest, locked := none }) _
  jvm_step X₁.here [X₁.here.top, hexec, d3', Value.category]
  exact X₁.ldcString hexec (own := own) (text := text) (index := is) (a := sa) hown' hstr'.1 hstr'.2
    (g := { method := m, pc := pc + 4, locals := ls, stack := .ref T.heap.size :: .ref T.heap.size :: rest, locked := none }) rfl d4' _ hsteps
/-- 'throw new E("text")', the text by a wide index -/
theorem vx_throwSW {cc : ByteArray} {pc : Nat} (hexec : p.tables.exec = Jvm.exec) (hb : c.code = cc) (hl : l.stackTraces = false) {own cls text : String} {names : List String} {ik is ic mc ms sa : Nat} {A : Nat → Prop}
    (hown : s.vm.findClass own = some m.cls) (hcls : Bundle.fit cls = true) (hnames : ∀ n ∈ names, Bundle.fit n = true)
    (hk : (Cond.classLink own ik cls).before args s = true) (hini : (Cond.initialized cls).before args s = true) (hstr : vk_R own is text sa s) (hat : ∀ w ∈ vx_atS own ic cls names, w.before args s = true)
    (hgood : ∀ w ∈ Cond.classLink own ik cls :: Cond.initialized cls :: vx_atS own ic cls names, vx_ot w = true)
    (hU : vx_Zq Bundle.tN "UNASSIGNED_STACK" Bundle.steD A s s.heap) (hN : vx_Zq Bundle.tN "SUPPRESSED_SENTINEL" Bundle.listD A s s.heap) (hS : va_S A s.heap H locs) (hsize : ls.size = c.maxLocals)
    (d0 : decode cc pc = .ok (.new ik, 3)) (d3 : decode cc (pc + 3) = .ok (.dup, 1)) (d4 : decode cc (pc + 4) = .ok (.ldc_w is, 3)) (d7 : decode cc (pc + 7) = .ok (.invokespecial ic, 3)) (d10 : decode cc (pc + 10) = .ok (.athrow, 1))
    (hout : ∀ x ∈ c.exceptionTable.toList, covers x (pc + 10) = false)
    (hRframes : names.length + 3 < R.frames) (hRlocals : (rest.map fun v => v.category).sum + (13 * (names.length + 1) + 43) ≤ R.locals) (hRcells : cells + 1 ≤ R.cells) (hRslots : slots + 6 ≤ R.slots) (hlocks : meth.locks = false)
    (hx : ∀ t : State, s.vm.Alike t.vm → H.size ≤ t.heap.size → (∀ q : Nat, q < H.size → t.heap[q]? = H[q]?) → XC cls s t)
    (hf : ∀ z ∈ locs, free z.base) (hc : cells + 1 ≤ mc) (hs : slots + 6 ≤ ms) :
    W p l e R s m args below meth c H locs cells slots (vx_MQ below Qc XC args s mc ms free) (F0 m pc ls rest) := by
  intro T hT X
  have htr : e.platform.stackTraces = false := (show e.platform.stackTraces = l.stackTraces by rw [X.admits.platform]).trans hl
  have Y := vx_rebase X (R' := { frames := R.frames, locals := R.locals, cells := 1, slots := 6 }) (Nat.le_refl _) (Nat.le_refl _) hRcells hRslots
  obtain ⟨s', hA⟩ : ∃ z, z = (T.setVm s.vm).setFrames (.invoking m args :: below) := ⟨_, rfl⟩
  rw [← hA] at Y
  have hvm : s'.vm = s.vm := by rw [hA]; rfl
  have hhp : s'.heap = H := by rw [hA]; exact hT
  have hW0 : s.WarmedH s'.vm := by rw [hvm]; exact State.WarmedH.refl s
  have hat' : ∀ w ∈ vx_atS own ic cls names, w.before args s' = true := fun w hw => vx_ot_at hW0 hvm.symm (hgood w (List.mem_cons_of_mem _ (List.mem_cons_of_mem _ hw))) (hat w hw)
  have hk' : (Cond.classLink own ik cls).before args s' = true := vx_ot_at hW0 hvm.symm (hgood _ List.mem_cons_self) hk
  have hini' : (Cond.initialized cls).before args s' = true := vx_ot_at hW0 hvm.symm (hgood _ (List.mem_cons_of_mem _ List.mem_cons_self)) hini
  have hU' : vx_Zq Bundle.tN "UNASSIGNED_STACK" Bundle.steD A s' s'.heap := by rw [hhp]; exact vx_Zq.moved hW0.alike (hU.kept hS.2.1)
  have hN' : vx_Zq Bundle.tN "SUPPRESSED_SENTINEL" Bundle.listD A s' s'.heap := by rw [hhp]; exact vx_Zq.moved hW0.alike (hN.kept hS.2.1)
  have h : ∀ w ∈ Bundle.ownAtoms own ic cls names, w.before args s' = true := vx_own hat' (vx_isRefq hU'.1) (vx_isRefq hN'.1) hU'.2.word hN'.2.word
  have hown' : s'.vm.findClass own = some m.cls := by rw [hvm]; exact hown
  have hins : (Cond.instantiable cls 6).before args s' = true := h _ (by simp [Bundle.ownAtoms])
  obtain ⟨vm₁, cX, kX, hfX, hkX, -, -, X₁, st1⟩ := Y.newCold hexec (own := own) (C := cls) (index := ik) (n := 6) hown' hk' hins hini'
    (g := F0 m pc ls rest) rfl (by rw [hb]; exact d0) (Nat.le_refl _) (Nat.le_refl _)
  generalize hT1 : (T.setVm vm₁).pushCell { cls := cX, slots := kX.instanceTypes.map defaultValue, vm := .none } = T1 at X₁ st1
  have hcat : (Value.ref T.heap.size).category = 1 := rfl
  have hcellA : T1.heap[T.heap.size]? = some (freshCell cX kX) := by rw [← hT1]; exact State.heap_pushCell_size _ _
  have d3' : decode c.code (pc + 3) = .ok (.dup, 1) := by rw [hb]; exact d3
  have d4' : decode c.code (pc + 4) = .ok (.ldc_w is, 3) := by rw [hb]; exact d4
  have hstr' : vk_R own is text sa s' := vk_R.warm hW0 hstr
  obtain ⟨U, hsteps, hrun, hend, hW, hsame, ce, hce, hO⟩ := X₁.ctorThrowS hexec htr (own := own) (cls := cls) (names := names) (ic := ic) hown' hcls hnames h (fun x hx => nomatch hx) hfX hkX hcellA (by rw [hhp, hT]; exact Nat.le_refl _) (msg := .ref sa) rfl
    (g := { method := m, pc := pc + 7, locals := ls, stack := .ref sa :: .ref T.heap.size :: .ref T.heap.size :: rest, locked := none }) rfl hsize rfl rfl (rest := rest) rfl
    (by rw [hb]; exact d7) (by rw [hb]; exact d10) hout hRframes (by simp only [List.map_cons, List.sum_cons, hcat]; omega) hlocks
  obtain ⟨f1, f2⟩ := vx_frame hsame
  rw [hhp] at f1 f2
  have hWs : s.WarmedH U.vm := State.WarmedH.trans hW0 hW
  have hcl : s.vm.findClass cls = some ce.cls := by
    have h9 := hO.cls
    rw [hvm] at h9
    exact h9
  have hall : s.sameButNew ({ U with vm := s.vm } : State) locs mc ms := by
    subst hA
    obtain ⟨e1, e2⟩ := hsame
    rw [State.setFrames_setFrames] at e1
    have h2 : (T.setVm s.vm).sameButNew ({ U with vm := s.vm } : State) [] (0 + 1) (0 + 6) := ⟨e1, e2⟩
    have h3 := X.same.trans h2
    rw [List.append_nil] at h3
    exact h3.mono hc hs
  refine ⟨U, ?_, .threw T.heap.size, hrun, hend, Or.inr ⟨T.heap.size, rfl, cls, ce, locs, hx U hWs.alike f1 (fun q hq => f2 q hq (fun z hz => nomatch hz)), hce, hO.vm, hcl, hWs, hall, hf⟩⟩
  refine st1 _ ?_
  show Steps p.tables e below (T1.setTop { method := m, pc := pc + 3, locals := ls, stack := .ref T.heap.size :: rest, locked := none }) _
  jvm_step X₁.here [X₁.here.top, hexec, d3', Value.category]
  exact X₁.ldcStringW hexec (own := own) (text := text) (index := is) (a := sa) hown' hstr'.1 hstr'.2
    (g := { method := m, pc := pc + 4, locals := ls, stack := .ref T.heap.size :: .ref T.heap.size :: rest, locked := none }) rfl d4' _ hsteps
end Ends
section Bodies
variable {l : Launch}
theorem vx_ofW {y : MethodName} {ws ws' : List Cond} {rm : Room} {Pc : Array Value → State → Prop} {Qc : Array Value → State → Outcome → State → Prop} {XC : String → State → State → Prop} {mc ms : Nat} {free : Addr → Prop} {cc : ByteArray} {maxL : Nat} {ret : Option FieldType}
    (hy : plainName y.cls = true) (hw : ws = Cond.code y cc maxL ret :: ws')
    (body : ∀ p e s m args below meth c s₁, BodyLoose p l y (headSpec ws rm) cc maxL ret e s m args below meth c s₁ → c.maxLocals = maxL → (∀ x ∈ c.exceptionTable.toList, False) → Pc args s →
      W p l e (headSpec ws rm).room s m args below meth c s.heap [] 0 0 (vx_MQ below Qc XC args s mc ms free) (entryFrame m args maxL)) : vx_Met l y ws rm Pc Qc XC mc ms free := by
  refine MetFree.of_bodyS (code := cc) (maxLocals := maxL) (ret := ret) hy ?_ ?_
  · intro args s m h hn
    obtain ⟨meth, c, h1, h2, h3, h4, h5, h6, -, -⟩ := Cond.code_spec hn (atoms_spec (ws := ws) h _ (by rw [hw]; exact List.mem_cons_self))
    exact ⟨meth, c, h1, h2, h3, h4, h5, h6⟩
  · intro p e s m args below meth c s₁ B hml hP _
    have hh0 : s₁.heap = s.heap := by rw [B.state]; rfl
    have ht : ∀ x ∈ c.exceptionTable.toList, False := by
      obtain ⟨meth9, c9, h1, h2, -, -, -, -, h7, -⟩ := Cond.code_spec B.named (atoms_spec (ws := ws) B.pre _ (by rw [hw]; exact List.mem_cons_self))
      cases Option.some.inj (h1.symm.trans B.method)
      cases Option.some.inj (h2.symm.trans (Stand.of_body B).code)
      intro x hx
      rw [Array.isEmpty_iff.mp h7] at hx
      cases hx
    obtain ⟨t, a1, o, b1, b2, b3⟩ := body p e s m args below meth c s₁ B hml ht hP s₁ hh0 (Stand.of_body B)
    exact ⟨t, o, a1, b1, b2, b3⟩
/-- the table of a body with handlers -/
theorem vx_table {p : Program} {x y : MethodName} {S : Spec} {cc bytes : ByteArray} {maxL maxL' : Nat} {ret ret' : Option FieldType} {e : Env} {s s₁ : State} {m : MethodId} {args : Array Value} {below : List Frame} {meth : Method} {c : Code} {hh : List (Nat × Nat × Nat × Nat)}
    (B : BodyLoose p l y S cc maxL ret e s m args below meth c s₁) (h : (Cond.codeWith y bytes maxL' ret' hh).before args s = true) : c.exceptionTable.toList = tableOf hh := by
  obtain ⟨m9, meth9, c9, hn9, h1, h2, -, -, h6, -⟩ := Cond.codeWith_spec h
  cases Option.some.inj (hn9.symm.trans B.named)
  cases Option.some.inj (h1.symm.trans B.method)
  cases Option.some.inj (h2.symm.trans (Stand.of_body B).code)
  rw [← h6, table_eq]
end Bodies
end VXA
/-! ===== END ===== -/
/-! ===== BEGIN a static call of a method with an exception table ===== -/
section VXS
variable {p : Program} {l : Launch} {e : Env} {R : Room} {s : State} {m : MethodId} {args : Array Value} {below : List Frame} {meth : Method} {c : Code} {T : State} {H : Heap} {locs : List Loc} {cells slots : Nat}
abbrev vx_CSW (R : Room) (s : State) (args : Array Value) (own : String) (index : Nat) (y : MethodName) (bytes : ByteArray) (maxL : Nat) (ret : Option FieldType) (hh : List (Nat × Nat × Nat × Nat)) (ws : List Cond) (rm : Room) (mc ms n : Nat) : Prop :=
  (rm.cells = mc ∧ rm.slots = ms ∧ rm.frames + 1 ≤ R.frames ∧ 8 + (maxL + 11) + rm.locals ≤ R.locals ∧ (∀ w ∈ ws, ∀ (a' : Array Value) (U : State), s.WarmedH U.vm → w.before a' U = true) ∧ Cond.codeWith y bytes maxL ret hh ∈ ws) ∧
  (Cond.codeWith y bytes maxL ret hh).before args s = true ∧ (Cond.initialized y.cls).before args s = true ∧ (y.cls ≠ "java/lang/invoke/MethodHandle" ∧ y.cls ≠ "java/lang/invoke/VarHandle") ∧
  (∀ sig, parseMethodDescriptor y.desc = some sig → n = sig.parameters.length) ∧ (Cond.methodLink own index y).before args s = true ∧ (Cond.static y).before args s = true
theorem vx_cwSW {own : String} {index maxL mc ms : Nat} {y : MethodName} {bytes : ByteArray} {ret : Option FieldType} {hh : List (Nat × Nat × Nat × Nat)} {Ts ws ws' : List Cond} {rm : Room} (n : Nat) (ht : ∀ w ∈ Ts, w.before args s = true) (hT : GoodIn Ts (va_wsS own index y ws)) (hw : ws = Cond.codeWith y bytes maxL ret hh :: ws') (hrc : rm.cells = mc) (hrs : rm.slots = ms)
    (hd : y.cls ≠ "java/lang/invoke/MethodHandle" ∧ y.cls ≠ "java/lang/invoke/VarHandle" ∧ (parseMethodDescriptor y.desc).map (fun d => d.parameters.length) = some n) (hR : rm.frames + 1 ≤ R.frames ∧ 8 + (maxL + 11) + rm.locals ≤ R.locals) :
    vx_CSW R s args own index y bytes maxL ret hh ws rm mc ms n := by
  have ok : ∀ w ∈ va_wsS own index y ws, w.before args s = true := fun w h => ht w (hT w h).1
  have hG : GoodIn Ts ws := fun w h => hT w (by unfold va_wsS; exact List.mem_append_right _ h)
  have hc : Cond.codeWith y bytes maxL ret hh ∈ ws := by rw [hw]; exact List.mem_cons_self
  refine ⟨⟨hrc, hrs, hR.1, hR.2, pay_in ht hG, hc⟩, ht _ (hG _ hc).1, ok _ (by simp [va_wsS]), ⟨hd.1, hd.2.1⟩, fun sig h => ?_, ok _ (by simp [va_wsS]), ok _ (by simp [va_wsS])⟩
  have h2 := hd.2.2
  rw [h] at h2
  exact (Option.some.inj h2).symm
theorem vx_callSW (X : Stand p l e R s m args below meth c T locs cells slots) (hexec : p.tables.exec = Jvm.exec) {own : String} {index : Nat} {y : MethodName} {bytes : ByteArray} {maxL : Nat} {ret : Option FieldType} {hh : List (Nat × Nat × Nat × Nat)}
    (hown : s.vm.findClass own = some m.cls) (hlink : (Cond.methodLink own index y).before args s = true) (hstat : (Cond.static y).before args s = true) (hinit : (Cond.initialized y.cls).before args s = true)
    (hcode : (Cond.codeWith y bytes maxL ret hh).before args s = true) (hy : y.cls ≠ "java/lang/invoke/MethodHandle" ∧ y.cls ≠ "java/lang/invoke/VarHandle")
    {W9 : Nat} {Pre : Pt → Array Value → Prop} {Post : Pt → Array Value → Option Value → Pt → Prop} (hK : Back l R p e below s args y 3 W9 Pre Post)
    {g : JFrame} (hg : g.method = m) (hsize : g.locals.size = c.maxLocals) {argsL rest : List Value} (hlen : ∀ sig, parseMethodDescriptor y.desc = some sig → argsL.length = sig.parameters.length)
    (hstack : g.stack = argsL.reverse ++ rest) (hW : 2 * g.monitorRoom + (rest.map fun v => v.category).sum ≤ W9) (hdg : decode c.code g.pc = .ok (.invokestatic index, 3))
    (hpre : ∀ vm₁, s.WarmedH vm₁ → Pre ⟨T.setVm vm₁, locs, cells, slots⟩ argsL.toArray) :
    ∃ (v : Option Value) (vm₁ : Vm) (B : Pt), s.WarmedH vm₁ ∧ Stand p l e R s m args below meth c B.U B.locs B.cells B.slots ∧ Post ⟨T.setVm vm₁, locs, cells, slots⟩ argsL.toArray v B ∧
      ∀ target, Steps p.tables e below (B.U.setTop { g with pc := g.pc + 3, stack := v.toList ++ rest }) target → Steps p.tables e below (T.setTop g) target := by
  obtain ⟨mk, methM, cM, hnamed, hmethM, -, -, -, -, -, -, hsigM⟩ := Cond.codeWith_spec hcode
  have hstatic : methM.isStatic = true := Cond.static_spec hnamed hmethM hstat
  obtain ⟨kP, hkP, -⟩ := className_of_methodNamed hnamed
  have hinitP : kP.init = .initialized := Cond.initialized_spec (findClass_of_methodNamed hnamed) hkP hinit
  obtain ⟨vm₁, X₁, hstep₁⟩ := X.invokestatic hexec hown hlink hnamed hmethM hstatic hkP hinitP hy (g := g) hg (argsL := argsL) (rest := rest) (hlen _ hsigM) hstack hdg
  obtain ⟨v, B, X', hpost, hsteps⟩ := hK m meth c ⟨T.setVm vm₁, locs, cells, slots⟩ { g with stack := rest } (.invokestatic index) mk argsL.toArray X₁ hg hsize hdg hW (X₁.named hnamed) (hpre vm₁ X₁.warmed)
  exact ⟨v, vm₁, B, X₁.warmed, X', hpost, fun target h => hstep₁ _ fun acts => by rw [doInvoke_state]; exact hsteps.trans h⟩
theorem vx_runSW {y : MethodName} {bytes cc : ByteArray} {maxL nL mc ms n index : Nat} {ret : Option FieldType} {hh : List (Nat × Nat × Nat × Nat)} {ws : List Cond} {rm : Room} {Pc : Array Value → State → Prop} {Qc : Array Value → State → Outcome → State → Prop} {free : Addr → Prop} {Ts : List Cond} {own : String} {As rest : List Value} {g : JFrame}
    (S : CallFix p m c cc nL s args Ts own) (hM : Met l y ws rm Pc Qc mc ms free) (cw : vx_CSW R s args own index y bytes maxL ret hh ws rm mc ms n) (hp : PreS s H Pc As)
    (hg : g.method = m) (hn : As.length = n) (hsize : g.locals.size = nL) (hstack : g.stack = As.reverse ++ rest) (hW : 2 * g.monitorRoom + (rest.map fun v => v.category).sum ≤ 8) (hdg : decode cc g.pc = .ok (.invokestatic index, 3)) (hf : cells + mc ≤ R.cells ∧ slots + ms ≤ R.slots) :
    va_Run p l e R s m args below meth c H locs cells slots mc ms g rest (Qc As.toArray) (free) := by
  obtain ⟨⟨hrc, hrs, hfr, hlo, hws, hcw⟩, hcode, hini, hy, hlen, hl, hstt⟩ := cw
  have hK : Back l R p e below s args y 3 8 (PreOf R mc ms Pc) (PostOf Qc mc ms free) := va_backW (hh := hh) (bytes := bytes) (maxL := maxL) (ret := ret) hM hp.1 hrc hrs hfr hlo hws hcw (fun a' U hW => word_at hW (Or.inl (by first | rfl | simp [Cond.onTables, Cond.keeps, Cond.steady])) hini)
  obtain ⟨hx, hb, hml, ho, -⟩ := S
  intro T hT X
  obtain ⟨v, vm₁, ⟨U', l2, c2, s2⟩, hW₁, X', ⟨g', mk, t, L, e1, e2, hq, h1, hL, h2, h3⟩, st⟩ := vx_callSW X hx (hh := hh) (bytes := bytes) (maxL := maxL) (ret := ret) ho hl hstt hini hcode hy hK hg (hsize.trans hml.symm) (argsL := As) (rest := rest) (fun sig h => hn.trans (hlen sig h)) hstack hW (by rw [hb]; exact hdg)
    (fun vm₁ hW₁ => ⟨hf.1, hf.2, hp.2 (T.setVm vm₁) hT hW₁⟩)
  dsimp only [Pt.U, Pt.locs, Pt.cells, Pt.slots] at X' e1 e2 h1 h2 h3 st
  subst h1; subst h2; subst h3
  exact ⟨v, (T.setVm vm₁).calling g' mk As.toArray, t, U', L, hT, X', hL, e1, e2, hq, st⟩
/-- not caught here, past rows that name other classes: it goes on to the caller -/
theorem vx_outP {p : Program} {l : Launch} {e : Env} {R : Room} {s : State} {m : MethodId} {args : Array Value} {below : List Frame} {meth : Method} {c : Code} {H : Heap} {locs : List Loc} {cells slots : Nat} {free : Addr → Prop} {ls : Array Slot} {rest : List Value} {Qc : Array Value → State → Outcome → State → Prop} {XC : String → State → State → Prop}
    {pc : Nat} {own E : String} {ce : Cell} {q : Addr} {mc ms : Nat} (hown : s.vm.findClass own = some m.cls) (hlocks : meth.locks = false)
    (hpass : ∀ z ∈ c.exceptionTable.toList, covers z pc = false ∨ (z.catchType ≠ 0 ∧ ∃ nm : String, (Cond.classLink own z.catchType nm).before args s = true ∧ va_Nc E nm s)) (hcell : H[q]? = some ce) (hv : ce.vm = .none) (hcl : s.vm.findClass E = some ce.cls)
    (hx : ∀ t : State, t.heap = H → s.vm.Alike t.vm → XC E s t) (hf : ∀ z ∈ locs, free z.base) (hc : cells ≤ mc) (hs : slots ≤ ms) :
    vx_W p l e R s m args below meth c H locs cells slots (vx_MQ below Qc XC args s mc ms free) (F0 m pc ls rest) q := by
  intro T hT X
  have hpl : e.platform.magicAccessors = ({} : Platform).magicAccessors := by rw [X.admits.platform]
  obtain ⟨vm', hW', X', st⟩ := X.outThrough hlocks q (g := F0 m pc ls rest) rfl rfl rfl (cell := ce) (by rw [hT]; exact hcell) (by rw [hv]; rfl)
    (by obtain ⟨k9, h9, -⟩ := Vm.findClass_spec hcl; exact ⟨k9, h9⟩) (fun z hz => by
      rcases hpass z hz with h | ⟨hz0, nm, hl1, hn1⟩
      · exact Or.inl h
      · obtain ⟨c6, hc6, hcl6⟩ := Cond.classLink_spec hown hl1 e.platform hpl
        obtain ⟨a8, b8, h1, h2, h3⟩ := hn1
        cases Option.some.inj (h1.symm.trans hcl)
        cases Option.some.inj (h2.symm.trans hc6)
        exact Or.inr ⟨hz0, _, hcl6, h3⟩)
  obtain ⟨g₀, hfr⟩ := X'.frames_eq
  have hcell9 : ((T.setVm vm').setFrames (.throwing q :: below)).heap[q]? = some ce := by
    show T.heap[q]? = some ce
    rw [hT]; exact hcell
  have hend : Ended ((T.setVm vm').setFrames (.throwing q :: below)) below (.threw q) := State.frames_setFrames _ (State.cur_lt_of_frames hfr)
  refine ⟨(T.setVm vm').setFrames (.throwing q :: below), ?_, .threw q, X'.here.running, hend, Or.inr ⟨q, rfl, E, ce, locs, hx _ hT (X'.ends _).1.alike, hcell9, hv, hcl, (X'.ends _).1, (X'.ends _).2.mono hc hs, hf⟩⟩
  rw [X.pushThrowing_eq]
  exact st
/-- a thing of a world lies in the heap -/
theorem vx_lt {D : va_G} {cl : List vw_C} {ws : va_W} {H1 : Heap} (h : va_P D cl ws H1) {k : Nat} {q : Nat × va_E} (hk : ws[k]? = some q) : q.1 < H1.size := (h k q hk).lt
end VXS
/-! ===== END ===== -/
/-! ===== BEGIN methods with a table of their own: called by a name, returning or throwing ===== -/
section VXH
/-! vx_backW, vx_callVX, vx_callSX, vx_callVW, vx_runVW, vx_runVX, vx_runSX, vx_ofWH follow the same proofs as their sisters above (Free/Laws.lean, Shelf42/LK1.lean); vx_outP calls Shelf42/NT130.lean (outThrough). -/
section
variable {l : Launch} {R : Room} {p : Program} {e : Env} {below : List Frame} {s : State} {sargs : Array Value} {y : MethodName} {len W9 : Nat}
theorem vx_backW {ws : List Cond} {rm : Room} {Pc : Array Value → State → Prop} {Qc : Array Value → State → Outcome → State → Prop} {XC : String → State → State → Prop} {mc ms : Nat} {free : Addr → Prop} {bytes : ByteArray} {maxL : Nat} {ret : Option FieldType} {hh : List (Nat × Nat × Nat × Nat)}
    (hM : vx_Met l y ws rm Pc Qc XC mc ms free) (hblind : FrameBlind Pc) (hrc : rm.cells = mc) (hrs : rm.slots = ms)
    (hframes : rm.frames + 1 ≤ R.frames) (hlocals : W9 + (maxL + 11) + rm.locals ≤ R.locals)
    (hws : ∀ w ∈ ws, ∀ a' U, s.WarmedH U.vm → w.before a' U = true) (hcode : Cond.codeWith y bytes maxL ret hh ∈ ws) (hinit : ∀ a' U, s.WarmedH U.vm → (Cond.initialized y.cls).before a' U = true) :
    vx_Back l R p e below s sargs y len W9 (PreOf R mc ms Pc) (PostOf Qc mc ms free) (vx_Post XC mc ms free) := by
  intro m meth c A g ig mk a X hg hsize hdg hW hn hp
  have h1 : (headSpec ws rm).pre.before a A.U = true := atoms_intro fun w hw => hws w hw _ _ X.warmed
  have h2 : (Cond.codeWith y bytes maxL ret hh).before a A.U = true := hws _ hcode _ _ X.warmed
  have h3 : (Cond.initialized y.cls).before a A.U = true := hinit _ _ X.warmed
  have h4 : A.cells + (headSpec ws rm).room.cells ≤ R.cells := by rw [show (headSpec ws rm).room.cells = mc from hrc]; exact hp.1
  have h5 : A.slots + (headSpec ws rm).room.slots ≤ R.slots := by rw [show (headSpec ws rm).room.slots = ms from hrs]; exact hp.2.1
  have hPc : Pc a (A.U.calling g mk a) := hblind _ _ _ _ hp.2.2
  obtain ⟨U, Ls, c0, s0⟩ := A
  dsimp only [Pt.U, Pt.locs, Pt.cells, Pt.slots] at h1 h2 h3 h4 h5 X hn hPc ⊢
  obtain ⟨m9, methY, cY, hn9, hmY, hcY, -, hlY, -⟩ := Cond.codeWith_spec h2
  cases Option.some.inj (hn9.symm.trans hn)
  obtain ⟨kY, hkY, -⟩ := className_of_methodNamed hn
  have hinitY : kY.init = .initialized := Cond.initialized_spec (findClass_of_methodNamed hn) hkY h3
  have h : At U g.method c below := by rw [hg]; exact X.here
  have hlocals9 : W9 + (maxL + 11) + (headSpec ws rm).room.locals ≤ R.locals := hlocals
  have happ : (headSpec ws rm).appliesLoose y e.platform (U.calling g mk a) = true :=
    Spec.appliesLoose_calling (g := g) h hdg hn hkY hinitY
      (X.room_calling (g := g) (R' := (headSpec ws rm).room) hsize hmY hcY hframes (by rw [hlY]; omega) h4 h5) h1
  obtain ⟨mid, hmid⟩ := h.above
  have hfr : (U.setTop g).frames = (.java g :: mid) ++ below := by rw [State.frames_setTop' g h.top, hmid]; rfl
  obtain ⟨o, s₂, hsteps, -, hend, hq⟩ := Steps.callFree hM p X.admits X.cas X.clock (acts := []) hfr happ hPc trivial
  have hq' : vx_Q Qc XC mc ms free a (U.calling g mk a) o s₂ := hq
  rw [State.frames_setTop' g h.top] at hend
  obtain ⟨g₀, hg0⟩ := Option.isSome_iff_exists.mp h.top
  obtain ⟨r, hr⟩ := State.topJava?_eq_some.mp hg0
  have hr' : (({ U with heap := s₂.heap, slotsUsed := s₂.slotsUsed } : State).setVm s₂.vm).frames = .java g₀ :: r := hr
  rcases hq' with ⟨hqc, L, hfe, hL⟩ | ⟨q, rfl, E, ce, L, hx, hce, hcv, hcl, hW₂, hsm, hL⟩
  · obtain ⟨⟨v, rfl⟩, hW₂, e2, q2, q3, q4, q5, q6⟩ := id hfe
    have e3 : s₂ = ({ (U.calling g mk a).setFrames s₂.frames with heap := s₂.heap, slotsUsed := s₂.slotsUsed } : State).setVm s₂.vm := by
      have : s₂ = ({ s₂ with vm := (U.calling g mk a).vm } : State).setVm s₂.vm := rfl
      rw [e2] at this
      exact this
    obtain ⟨c₂, i₂, len₂, hc₂, hd₂, hf₂⟩ := hend
    have hW' : U.WarmedH s₂.vm := hW₂
    have hcc : c₂ = c := by
      have h1 : s₂.code? g.method = U.code? g.method := by
        rw [State.code?_eq, State.code?_eq, hW'.alike.method?]
      exact Option.some.inj (hc₂.symm.trans (h1.trans h.code))
    subst hcc
    have hlen : len₂ = len := by rw [hdg] at hd₂; cases hd₂; rfl
    subst hlen
    have hs₂ : s₂ = (({ U with heap := s₂.heap, slotsUsed := s₂.slotsUsed } : State).setVm s₂.vm).setTop { g with pc := g.pc + len₂, stack := v.toList ++ g.stack } := by
      refine e3.trans ?_
      rw [hf₂, State.calling_eq h.top, State.setFrames_setFrames, State.setTop_of_frames _ hr', hr]
      rfl
    have hsame : U.sameButNew ({ U with heap := s₂.heap, slotsUsed := s₂.slotsUsed } : State) L mc ms := by
      refine ⟨?_, q2, q3, q4, q5, q6⟩
      obtain ⟨t, ht, -⟩ := State.frames_cons hr
      show ({ U with heap := s₂.heap, slotsUsed := s₂.slotsUsed } : State) = { U.setFrames U.frames with heap := s₂.heap, slotsUsed := s₂.slotsUsed }
      rw [State.setFrames_self ht]
    subst hg
    refine Or.inl ⟨v, ⟨(({ U with heap := s₂.heap, slotsUsed := s₂.slotsUsed } : State).setVm s₂.vm), Ls ++ L, c0 + mc, s0 + ms⟩,
      ⟨X.admits, X.cas, X.clock, X.frames, X.room, X.hears, X.method, X.code, (X.here.setHeapUsed s₂.heap s₂.slotsUsed).setVm hW'.alike, X.tail, State.WarmedH.trans X.warmed hW', X.limits, X.bytes, X.same.trans (hsame.setVm s.vm)⟩,
      ⟨g, mk, s₂, L, rfl, rfl, hqc, rfl, hL, rfl, rfl⟩, ?_⟩
    show Steps p.tables e below _ ((({ U with heap := s₂.heap, slotsUsed := s₂.slotsUsed } : State).setVm s₂.vm).setTop { g with pc := g.pc + len₂, stack := v.toList ++ g.stack })
    rw [← hs₂]
    exact hsteps
  · obtain ⟨e2, q2, q3, q4, q5, q6⟩ := id hsm
    have e3 : s₂ = ({ (U.calling g mk a).setFrames s₂.frames with heap := s₂.heap, slotsUsed := s₂.slotsUsed } : State).setVm s₂.vm := by
      have : s₂ = ({ s₂ with vm := (U.calling g mk a).vm } : State).setVm s₂.vm := rfl
      rw [e2] at this
      exact this
    have hf₂ : s₂.frames = .throwing q :: .java g :: U.frames.tail := hend
    have hW' : U.WarmedH s₂.vm := hW₂
    have hs₂ : s₂ = ((({ U with heap := s₂.heap, slotsUsed := s₂.slotsUsed } : State).setVm s₂.vm).setTop g).pushFrame (.throwing q) := by
      refine e3.trans ?_
      rw [hf₂, State.calling_eq h.top, State.setFrames_setFrames, State.pushFrame, State.frames_setTop _ hr', State.setTop_of_frames _ hr', State.setFrames_setFrames, hr]
      rfl
    have hsame : U.sameButNew ({ U with heap := s₂.heap, slotsUsed := s₂.slotsUsed } : State) L mc ms := by
      refine ⟨?_, q2, q3, q4, q5, q6⟩
      obtain ⟨t, ht, -⟩ := State.frames_cons hr
      show ({ U with heap := s₂.heap, slotsUsed := s₂.slotsUsed } : State) = { U.setFrames U.frames with heap := s₂.heap, slotsUsed := s₂.slotsUsed }
      rw [State.setFrames_self ht]
    subst hg
    refine Or.inr ⟨q, ⟨(({ U with heap := s₂.heap, slotsUsed := s₂.slotsUsed } : State).setVm s₂.vm), Ls ++ L, c0 + mc, s0 + ms⟩,
      ⟨X.admits, X.cas, X.clock, X.frames, X.room, X.hears, X.method, X.code, (X.here.setHeapUsed s₂.heap s₂.slotsUsed).setVm hW'.alike, X.tail, State.WarmedH.trans X.warmed hW', X.limits, X.bytes, X.same.trans (hsame.setVm s.vm)⟩,
      ⟨g, mk, s₂, L, E, ce, rfl, rfl, hx, hce, hcv, hcl, rfl, hL, rfl, rfl⟩, ?_⟩
    show Steps p.tables e below _ (((({ U with heap := s₂.heap, slotsUsed := s₂.slotsUsed } : State).setVm s₂.vm).setTop g).pushFrame (.throwing q))
    rw [← hs₂]
    exact hsteps
end
variable {p : Program} {l : Launch} {e : Env} {R : Room} {s : State} {m : MethodId} {args : Array Value} {below : List Frame} {meth : Method} {c : Code} {T : State} {H : Heap} {locs : List Loc} {cells slots : Nat}
theorem vx_callVX (X : Stand p l e R s m args below meth c T locs cells slots) (hexec : p.tables.exec = Jvm.exec) {own C : String} {index : Nat} {y : MethodName} {bytes : ByteArray} {maxL : Nat} {ret : Option FieldType} {hh : List (Nat × Nat × Nat × Nat)}
    (hown : s.vm.findClass own = some m.cls) (hlink : (Cond.methodLink own index y).before args s = true) (hinst : (Cond.instanceMethod y).before args s = true) (hsel : (Cond.selects C y y).before args s = true)
    (hcode : (Cond.codeWith y bytes maxL ret hh).before args s = true) (hy : y.cls ≠ "java/lang/invoke/MethodHandle" ∧ y.cls ≠ "java/lang/invoke/VarHandle")
    {W9 : Nat} {Pre : Pt → Array Value → Prop} {Post : Pt → Array Value → Option Value → Pt → Prop} {PostX : Pt → Array Value → Addr → Pt → Prop} (hK : vx_Back l R p e below s args y 3 W9 Pre Post PostX)
    {b : Addr} {cellB : Cell} (hcell : T.heap[b]? = some cellB) (hobj : cellB.vm.isStatics = false) (hcls : s.vm.findClass C = some cellB.cls)
    {g : JFrame} (hg : g.method = m) (hsize : g.locals.size = c.maxLocals) {argsL rest : List Value} (hlen : ∀ sig, parseMethodDescriptor y.desc = some sig → argsL.length = sig.parameters.length)
    (hstack : g.stack = argsL.reverse ++ .ref b :: rest) (hW : 2 * g.monitorRoom + (rest.map fun v => v.category).sum ≤ W9) (hdg : decode c.code g.pc = .ok (.invokevirtual index, 3))
    (hpre : ∀ vm₁, s.WarmedH vm₁ → Pre ⟨T.setVm vm₁, locs, cells, slots⟩ (Value.ref b :: argsL).toArray) :
    (∃ (v : Option Value) (vm₁ : Vm) (B : Pt), s.WarmedH vm₁ ∧ Stand p l e R s m args below meth c B.U B.locs B.cells B.slots ∧ Post ⟨T.setVm vm₁, locs, cells, slots⟩ (Value.ref b :: argsL).toArray v B ∧
      ∀ target, Steps p.tables e below (B.U.setTop { g with pc := g.pc + 3, stack := v.toList ++ rest }) target → Steps p.tables e below (T.setTop g) target) ∨
    (∃ (q : Addr) (vm₁ : Vm) (B : Pt), s.WarmedH vm₁ ∧ Stand p l e R s m args below meth c B.U B.locs B.cells B.slots ∧ PostX ⟨T.setVm vm₁, locs, cells, slots⟩ (Value.ref b :: argsL).toArray q B ∧
      Steps p.tables e below (T.setTop g) ((B.U.setTop { g with stack := rest }).pushFrame (.throwing q))) := by
  obtain ⟨mk, methM, hnamed, hmethM, hstM, habM⟩ := Cond.instanceMethod_spec hinst
  obtain ⟨m8, methM', cM, hn8, hmethM', -, -, -, -, -, -, hsigM⟩ := Cond.codeWith_spec hcode
  cases Option.some.inj (hn8.symm.trans hnamed)
  cases hmethM.symm.trans hmethM'
  obtain ⟨c2, r2, m2, q1, q2, q3, q4, kP, hkP, hkPi⟩ := Cond.selects_spec hsel
  cases hcls.symm.trans q1
  cases (State.methodFound?_of_named hnamed hy).symm.trans q2
  cases hnamed.symm.trans q3
  have hselP : selectMethod e.platform s.vm cellB.cls mk = .method mk := by rw [Launch.admits_selectMethod X.admits]; exact q4
  obtain ⟨vm₁, X₁, hstep₁⟩ := X.invokevirtual hexec hown hlink hnamed hmethM hstM hkP hkPi hy (a := b) (cell := cellB) hcell
    (fun z h => by rw [h] at hobj; cases hobj) hselP hmethM habM hkP hkPi (g := g) hg (argsL := argsL) (rest := rest) (hlen _ hsigM) hstack hdg
  rcases hK m meth c ⟨T.setVm vm₁, locs, cells, slots⟩ { g with stack := rest } (.invokevirtual index) mk (Value.ref b :: argsL).toArray X₁ hg hsize hdg hW (X₁.named hnamed) (hpre vm₁ X₁.warmed) with ⟨v, B, X', hpost, hsteps⟩ | ⟨q, B, X', hpost, hsteps⟩
  · exact Or.inl ⟨v, vm₁, B, X₁.warmed, X', hpost, fun target h => hstep₁ _ fun acts => by rw [doInvoke_state]; exact hsteps.trans h⟩
  · exact Or.inr ⟨q, vm₁, B, X₁.warmed, X', hpost, hstep₁ _ fun acts => by rw [doInvoke_state]; exact hsteps⟩
theorem vx_callSX (X : Stand p l e R s m args below meth c T locs cells slots) (hexec : p.tables.exec = Jvm.exec) {own : String} {index : Nat} {y : MethodName} {bytes : ByteArray} {maxL : Nat} {ret : Option FieldType} {hh : List (Nat × Nat × Nat × Nat)}
    (hown : s.vm.findClass own = some m.cls) (hlink : (Cond.methodLink own index y).before args s = true) (hstat : (Cond.static y).before args s = true) (hinit : (Cond.initialized y.cls).before args s = true)
    (hcode : (Cond.codeWith y bytes maxL ret hh).before args s = true) (hy : y.cls ≠ "java/lang/invoke/MethodHandle" ∧ y.cls ≠ "java/lang/invoke/VarHandle")
    {W9 : Nat} {Pre : Pt → Array Value → Prop} {Post : Pt → Array Value → Option Value → Pt → Prop} {PostX : Pt → Array Value → Addr → Pt → Prop} (hK : vx_Back l R p e below s args y 3 W9 Pre Post PostX)
    {g : JFrame} (hg : g.method = m) (hsize : g.locals.size = c.maxLocals) {argsL rest : List Value} (hlen : ∀ sig, parseMethodDescriptor y.desc = some sig → argsL.length = sig.parameters.length)
    (hstack : g.stack = argsL.reverse ++ rest) (hW : 2 * g.monitorRoom + (rest.map fun v => v.category).sum ≤ W9) (hdg : decode c.code g.pc = .ok (.invokestatic index, 3))
    (hpre : ∀ vm₁, s.WarmedH vm₁ → Pre ⟨T.setVm vm₁, locs, cells, slots⟩ argsL.toArray) :
    (∃ (v : Option Value) (vm₁ : Vm) (B : Pt), s.WarmedH vm₁ ∧ Stand p l e R s m args below meth c B.U B.locs B.cells B.slots ∧ Post ⟨T.setVm vm₁, locs, cells, slots⟩ argsL.toArray v B ∧
      ∀ target, Steps p.tables e below (B.U.setTop { g with pc := g.pc + 3, stack := v.toList ++ rest }) target → Steps p.tables e below (T.setTop g) target) ∨
    (∃ (q : Addr) (vm₁ : Vm) (B : Pt), s.WarmedH vm₁ ∧ Stand p l e R s m args below meth c B.U B.locs B.cells B.slots ∧ PostX ⟨T.setVm vm₁, locs, cells, slots⟩ argsL.toArray q B ∧
      Steps p.tables e below (T.setTop g) ((B.U.setTop { g with stack := rest }).pushFrame (.throwing q))) := by
  obtain ⟨mk, methM, cM, hnamed, hmethM, -, -, -, -, -, -, hsigM⟩ := Cond.codeWith_spec hcode
  have hstatic : methM.isStatic = true := Cond.static_spec hnamed hmethM hstat
  obtain ⟨kP, hkP, -⟩ := className_of_methodNamed hnamed
  have hinitP : kP.init = .initialized := Cond.initialized_spec (findClass_of_methodNamed hnamed) hkP hinit
  obtain ⟨vm₁, X₁, hstep₁⟩ := X.invokestatic hexec hown hlink hnamed hmethM hstatic hkP hinitP hy (g := g) hg (argsL := argsL) (rest := rest) (hlen _ hsigM) hstack hdg
  rcases hK m meth c ⟨T.setVm vm₁, locs, cells, slots⟩ { g with stack := rest } (.invokestatic index) mk argsL.toArray X₁ hg hsize hdg hW (X₁.named hnamed) (hpre vm₁ X₁.warmed) with ⟨v, B, X', hpost, hsteps⟩ | ⟨q, B, X', hpost, hsteps⟩
  · exact Or.inl ⟨v, vm₁, B, X₁.warmed, X', hpost, fun target h => hstep₁ _ fun acts => by rw [doInvoke_state]; exact hsteps.trans h⟩
  · exact Or.inr ⟨q, vm₁, B, X₁.warmed, X', hpost, hstep₁ _ fun acts => by rw [doInvoke_state]; exact hsteps⟩
theorem vx_callVW (X : Stand p l e R s m args below meth c T locs cells slots) (hexec : p.tables.exec = Jvm.exec) {own C : String} {index : Nat} {y : MethodName} {bytes : ByteArray} {maxL : Nat} {ret : Option FieldType} {hh : List (Nat × Nat × Nat × Nat)}
    (hown : s.vm.findClass own = some m.cls) (hlink : (Cond.methodLink own index y).before args s = true) (hinst : (Cond.instanceMethod y).before args s = true) (hsel : (Cond.selects C y y).before args s = true)
    (hcode : (Cond.codeWith y bytes maxL ret hh).before args s = true) (hy : y.cls ≠ "java/lang/invoke/MethodHandle" ∧ y.cls ≠ "java/lang/invoke/VarHandle")
    {W9 : Nat} {Pre : Pt → Array Value → Prop} {Post : Pt → Array Value → Option Value → Pt → Prop} (hK : Back l R p e below s args y 3 W9 Pre Post)
    {b : Addr} {cellB : Cell} (hcell : T.heap[b]? = some cellB) (hobj : cellB.vm.isStatics = false) (hcls : s.vm.findClass C = some cellB.cls)
    {g : JFrame} (hg : g.method = m) (hsize : g.locals.size = c.maxLocals) {argsL rest : List Value} (hlen : ∀ sig, parseMethodDescriptor y.desc = some sig → argsL.length = sig.parameters.length)
    (hstack : g.stack = argsL.reverse ++ .ref b :: rest) (hW : 2 * g.monitorRoom + (rest.map fun v => v.category).sum ≤ W9) (hdg : decode c.code g.pc = .ok (.invokevirtual index, 3))
    (hpre : ∀ vm₁, s.WarmedH vm₁ → Pre ⟨T.setVm vm₁, locs, cells, slots⟩ (Value.ref b :: argsL).toArray) :
    ∃ (v : Option Value) (vm₁ : Vm) (B : Pt), s.WarmedH vm₁ ∧ Stand p l e R s m args below meth c B.U B.locs B.cells B.slots ∧ Post ⟨T.setVm vm₁, locs, cells, slots⟩ (Value.ref b :: argsL).toArray v B ∧
      ∀ target, Steps p.tables e below (B.U.setTop { g with pc := g.pc + 3, stack := v.toList ++ rest }) target → Steps p.tables e below (T.setTop g) target := by
  obtain ⟨mk, methM, hnamed, hmethM, hstM, habM⟩ := Cond.instanceMethod_spec hinst
  obtain ⟨m8, methM', cM, hn8, hmethM', -, -, -, -, -, -, hsigM⟩ := Cond.codeWith_spec hcode
  cases Option.some.inj (hn8.symm.trans hnamed)
  cases hmethM.symm.trans hmethM'
  obtain ⟨c2, r2, m2, q1, q2, q3, q4, kP, hkP, hkPi⟩ := Cond.selects_spec hsel
  cases hcls.symm.trans q1
  cases (State.methodFound?_of_named hnamed hy).symm.trans q2
  cases hnamed.symm.trans q3
  have hselP : selectMethod e.platform s.vm cellB.cls mk = .method mk := by rw [Launch.admits_selectMethod X.admits]; exact q4
  obtain ⟨vm₁, X₁, hstep₁⟩ := X.invokevirtual hexec hown hlink hnamed hmethM hstM hkP hkPi hy (a := b) (cell := cellB) hcell
    (fun z h => by rw [h] at hobj; cases hobj) hselP hmethM habM hkP hkPi (g := g) hg (argsL := argsL) (rest := rest) (hlen _ hsigM) hstack hdg
  obtain ⟨v, B, X', hpost, hsteps⟩ := hK m meth c ⟨T.setVm vm₁, locs, cells, slots⟩ { g with stack := rest } (.invokevirtual index) mk (Value.ref b :: argsL).toArray X₁ hg hsize hdg hW (X₁.named hnamed) (hpre vm₁ X₁.warmed)
  exact ⟨v, vm₁, B, X₁.warmed, X', hpost, fun target h => hstep₁ _ fun acts => by rw [doInvoke_state]; exact hsteps.trans h⟩
abbrev vx_CVW (R : Room) (s : State) (args : Array Value) (own C : String) (index : Nat) (y : MethodName) (bytes : ByteArray) (maxL : Nat) (ret : Option FieldType) (hh : List (Nat × Nat × Nat × Nat)) (ws : List Cond) (rm : Room) (mc ms n : Nat) : Prop :=
  (rm.cells = mc ∧ rm.slots = ms ∧ rm.frames + 1 ≤ R.frames ∧ 8 + (maxL + 11) + rm.locals ≤ R.locals ∧ (∀ w ∈ ws, ∀ (a' : Array Value) (U : State), s.WarmedH U.vm → w.before a' U = true) ∧ Cond.codeWith y bytes maxL ret hh ∈ ws) ∧
  (Cond.codeWith y bytes maxL ret hh).before args s = true ∧ (Cond.initialized y.cls).before args s = true ∧ (y.cls ≠ "java/lang/invoke/MethodHandle" ∧ y.cls ≠ "java/lang/invoke/VarHandle") ∧
  (∀ sig, parseMethodDescriptor y.desc = some sig → n = sig.parameters.length) ∧ (Cond.methodLink own index y).before args s = true ∧ (Cond.instanceMethod y).before args s = true ∧ (Cond.selects C y y).before args s = true
theorem vx_cwVW {own C : String} {index maxL mc ms : Nat} {y : MethodName} {bytes : ByteArray} {ret : Option FieldType} {hh : List (Nat × Nat × Nat × Nat)} {Ts ws ws' : List Cond} {rm : Room} (n : Nat) (ht : ∀ w ∈ Ts, w.before args s = true) (hT : GoodIn Ts (wsV own index C y ws)) (hw : ws = Cond.codeWith y bytes maxL ret hh :: ws') (hrc : rm.cells = mc) (hrs : rm.slots = ms)
    (hd : y.cls = C ∧ y.cls ≠ "java/lang/invoke/MethodHandle" ∧ y.cls ≠ "java/lang/invoke/VarHandle" ∧ (parseMethodDescriptor y.desc).map (fun d => d.parameters.length) = some n) (hR : rm.frames + 1 ≤ R.frames ∧ 8 + (maxL + 11) + rm.locals ≤ R.locals) :
    vx_CVW R s args own C index y bytes maxL ret hh ws rm mc ms n := by
  obtain ⟨hC, hd⟩ := hd
  subst hC
  have ok : ∀ w ∈ wsV own index y.cls y ws, w.before args s = true := fun w h => ht w (hT w h).1
  have hG : GoodIn Ts ws := fun w h => hT w (by unfold wsV; exact List.mem_append_right _ h)
  have hc : Cond.codeWith y bytes maxL ret hh ∈ ws := by rw [hw]; exact List.mem_cons_self
  refine ⟨⟨hrc, hrs, hR.1, hR.2, pay_in ht hG, hc⟩, ht _ (hG _ hc).1, ok _ (by simp [wsV]), ⟨hd.1, hd.2.1⟩, fun sig h => ?_, ok _ (by simp [wsV]), ok _ (by simp [wsV]), ok _ (by simp [wsV])⟩
  have h2 := hd.2.2
  rw [h] at h2
  exact (Option.some.inj h2).symm
theorem vx_runVW {y : MethodName} {bytes cc : ByteArray} {maxL nL mc ms n index : Nat} {ret : Option FieldType} {hh : List (Nat × Nat × Nat × Nat)} {ws : List Cond} {rm : Room} {Pc : Array Value → State → Prop} {Qc : Array Value → State → Outcome → State → Prop} {free : Addr → Prop} {Ts : List Cond} {own C : String} {b : Addr} {As rest : List Value} {g : JFrame}
    (S : CallFix p m c cc nL s args Ts own) (hM : Met l y ws rm Pc Qc mc ms free) (cw : vx_CVW R s args own C index y bytes maxL ret hh ws rm mc ms n) (hp : PreV s H C b Pc As)
    (hg : g.method = m) (hn : As.length = n) (hsize : g.locals.size = nL) (hstack : g.stack = As.reverse ++ .ref b :: rest) (hW : 2 * g.monitorRoom + (rest.map fun v => v.category).sum ≤ 8) (hdg : decode cc g.pc = .ok (.invokevirtual index, 3)) (hf : cells + mc ≤ R.cells ∧ slots + ms ≤ R.slots) :
    va_Run p l e R s m args below meth c H locs cells slots mc ms g rest (Qc (Value.ref b :: As).toArray) free := by
  obtain ⟨⟨hrc, hrs, hfr, hlo, hws, hcw⟩, hcode, hini, hy, hlen, hl, hin, hse⟩ := cw
  have hK : Back l R p e below s args y 3 8 (PreOf R mc ms Pc) (PostOf Qc mc ms free) := va_backW (hh := hh) (bytes := bytes) (maxL := maxL) (ret := ret) hM hp.1 hrc hrs hfr hlo hws hcw (fun a' U hW => word_at hW (Or.inl (by first | rfl | simp [Cond.onTables, Cond.keeps, Cond.steady])) hini)
  obtain ⟨hx, hb, hml, ho, -⟩ := S
  obtain ⟨-, ⟨cellB, hcB, hoB, hclB⟩, hPc⟩ := hp
  intro T hT X
  obtain ⟨v, vm₁, ⟨U', l2, c2, s2⟩, hW₁, X', ⟨g', mk, t, L, e1, e2, hq, h1, hL, h2, h3⟩, st⟩ := vx_callVW X hx (C := C) (hh := hh) (bytes := bytes) (maxL := maxL) (ret := ret) ho hl hin hse hcode hy hK (by rw [hT]; exact hcB) hoB hclB hg (hsize.trans hml.symm) (argsL := As) (rest := rest) (fun sig h => hn.trans (hlen sig h)) hstack hW (by rw [hb]; exact hdg)
    (fun vm₁ hW₁ => ⟨hf.1, hf.2, hPc (T.setVm vm₁) hT hW₁⟩)
  dsimp only [Pt.U, Pt.locs, Pt.cells, Pt.slots] at X' e1 e2 h1 h2 h3 st
  subst h1; subst h2; subst h3
  exact ⟨v, (T.setVm vm₁).calling g' mk (Value.ref b :: As).toArray, t, U', L, hT, X', hL, e1, e2, hq, st⟩
section
variable {y : MethodName} {bytes cc : ByteArray} {maxL nL mc ms n index : Nat} {ret : Option FieldType} {ws : List Cond} {rm : Room} {Pc : Array Value → State → Prop} {Qc : Array Value → State → Outcome → State → Prop} {XC : String → State → State → Prop} {free : Addr → Prop} {Ts : List Cond} {own C : String} {b : Addr} {As rest : List Value} {g : JFrame}
theorem vx_runVX {hh : List (Nat × Nat × Nat × Nat)} (S : CallFix p m c cc nL s args Ts own) (hM : vx_Met l y ws rm Pc Qc XC mc ms free) (cw : vx_CVW R s args own C index y bytes maxL ret hh ws rm mc ms n) (hp : PreV s H C b Pc As)
    (hg : g.method = m) (hn : As.length = n) (hsize : g.locals.size = nL) (hstack : g.stack = As.reverse ++ .ref b :: rest) (hW : 2 * g.monitorRoom + (rest.map fun v => v.category).sum ≤ 8) (hdg : decode cc g.pc = .ok (.invokevirtual index, 3)) (hf : cells + mc ≤ R.cells ∧ slots + ms ≤ R.slots) :
    vx_Run p l e R s m args below meth c H locs cells slots mc ms g rest (Qc (Value.ref b :: As).toArray) XC free := by
  obtain ⟨⟨hrc, hrs, hfr, hlo, hws, hcw⟩, hcode, hini, hy, hlen, hl, hin, hse⟩ := cw
  have hK : vx_Back l R p e below s args y 3 8 (PreOf R mc ms Pc) (PostOf Qc mc ms free) (vx_Post XC mc ms free) := vx_backW (hh := hh) (bytes := bytes) (maxL := maxL) (ret := ret) hM hp.1 hrc hrs hfr hlo hws hcw (fun a' U hW => word_at hW (Or.inl (by first | rfl | simp [Cond.onTables, Cond.keeps, Cond.steady])) hini)
  obtain ⟨hx, hb, hml, ho, -⟩ := S
  obtain ⟨-, ⟨cellB, hcB, hoB, hclB⟩, hPc⟩ := hp
  intro T hT X
  rcases vx_callVX X hx (C := C) (hh := hh) (bytes := bytes) (maxL := maxL) (ret := ret) ho hl hin hse hcode hy hK (by rw [hT]; exact hcB) hoB hclB hg (hsize.trans hml.symm) (argsL := As) (rest := rest) (fun sig h => hn.trans (hlen sig h)) hstack hW (by rw [hb]; exact hdg)
    (fun vm₁ hW₁ => ⟨hf.1, hf.2, hPc (T.setVm vm₁) hT hW₁⟩) with ⟨v, vm₁, ⟨U', l2, c2, s2⟩, hW₁, X', ⟨g', mk, t, L, e1, e2, hq, h1, hL, h2, h3⟩, st⟩ | ⟨q, vm₁, ⟨U', l2, c2, s2⟩, hW₁, X', ⟨g', mk, t, L, E, ce, e1, e2, hq, hce, hcv, hcl, h1, hL, h2, h3⟩, st⟩
  · dsimp only [Pt.U, Pt.locs, Pt.cells, Pt.slots] at X' e1 e2 h1 h2 h3 st
    subst h1; subst h2; subst h3
    exact Or.inl ⟨v, (T.setVm vm₁).calling g' mk (Value.ref b :: As).toArray, t, U', L, hT, X', hL, e1, e2, hq, st⟩
  · dsimp only [Pt.U, Pt.locs, Pt.cells, Pt.slots] at X' e1 e2 h1 h2 h3 st hcl
    subst h1; subst h2; subst h3
    exact Or.inr ⟨q, (T.setVm vm₁).calling g' mk (Value.ref b :: As).toArray, t, U', L, E, ce, hT, X', hL, e1, e2, hq, hce, hcv, vx_cls hW₁ hcl, st⟩
theorem vx_runSX {hh : List (Nat × Nat × Nat × Nat)} (S : CallFix p m c cc nL s args Ts own) (hM : vx_Met l y ws rm Pc Qc XC mc ms free) (cw : vx_CSW R s args own index y bytes maxL ret hh ws rm mc ms n) (hp : PreS s H Pc As)
    (hg : g.method = m) (hn : As.length = n) (hsize : g.locals.size = nL) (hstack : g.stack = As.reverse ++ rest) (hW : 2 * g.monitorRoom + (rest.map fun v => v.category).sum ≤ 8) (hdg : decode cc g.pc = .ok (.invokestatic index, 3)) (hf : cells + mc ≤ R.cells ∧ slots + ms ≤ R.slots) :
    vx_Run p l e R s m args below meth c H locs cells slots mc ms g rest (Qc As.toArray) XC free := by
  obtain ⟨⟨hrc, hrs, hfr, hlo, hws, hcw⟩, hcode, hini, hy, hlen, hl, hstt⟩ := cw
  have hK : vx_Back l R p e below s args y 3 8 (PreOf R mc ms Pc) (PostOf Qc mc ms free) (vx_Post XC mc ms free) := vx_backW (hh := hh) (bytes := bytes) (maxL := maxL) (ret := ret) hM hp.1 hrc hrs hfr hlo hws hcw (fun a' U hW => word_at hW (Or.inl (by first | rfl | simp [Cond.onTables, Cond.keeps, Cond.steady])) hini)
  obtain ⟨hx, hb, hml, ho, -⟩ := S
  intro T hT X
  rcases vx_callSX X hx (hh := hh) (bytes := bytes) (maxL := maxL) (ret := ret) ho hl hstt hini hcode hy hK hg (hsize.trans hml.symm) (argsL := As) (rest := rest) (fun sig h => hn.trans (hlen sig h)) hstack hW (by rw [hb]; exact hdg)
    (fun vm₁ hW₁ => ⟨hf.1, hf.2, hp.2 (T.setVm vm₁) hT hW₁⟩) with ⟨v, vm₁, ⟨U', l2, c2, s2⟩, hW₁, X', ⟨g', mk, t, L, e1, e2, hq, h1, hL, h2, h3⟩, st⟩ | ⟨q, vm₁, ⟨U', l2, c2, s2⟩, hW₁, X', ⟨g', mk, t, L, E, ce, e1, e2, hq, hce, hcv, hcl, h1, hL, h2, h3⟩, st⟩
  · dsimp only [Pt.U, Pt.locs, Pt.cells, Pt.slots] at X' e1 e2 h1 h2 h3 st
    subst h1; subst h2; subst h3
    exact Or.inl ⟨v, (T.setVm vm₁).calling g' mk As.toArray, t, U', L, hT, X', hL, e1, e2, hq, st⟩
  · dsimp only [Pt.U, Pt.locs, Pt.cells, Pt.slots] at X' e1 e2 h1 h2 h3 st hcl
    subst h1; subst h2; subst h3
    exact Or.inr ⟨q, (T.setVm vm₁).calling g' mk As.toArray, t, U', L, E, ce, hT, X', hL, e1, e2, hq, hce, hcv, vx_cls hW₁ hcl, st⟩
end
end VXH
theorem vx_ofWH {l : Launch} {y : MethodName} {ws ws' : List Cond} {rm : Room} {Pc : Array Value → State → Prop} {Qc : Array Value → State → Outcome → State → Prop} {XC : String → State → State → Prop} {mc ms : Nat} {free : Addr → Prop} {cc : ByteArray} {maxL : Nat} {ret : Option FieldType} {hh : List (Nat × Nat × Nat × Nat)}
    (hy : plainName y.cls = true) (hw : ws = Cond.codeWith y cc maxL ret hh :: ws')
    (body : ∀ p e s m args below meth c s₁, BodyLoose p l y (headSpec ws rm) cc maxL ret e s m args below meth c s₁ → c.maxLocals = maxL → Pc args s →
      W p l e (headSpec ws rm).room s m args below meth c s.heap [] 0 0 (vx_MQ below Qc XC args s mc ms free) (entryFrame m args maxL)) : vx_Met l y ws rm Pc Qc XC mc ms free := by
  refine MetFree.of_bodyS (code := cc) (maxLocals := maxL) (ret := ret) hy ?_ ?_
  · intro args s m h hn
    obtain ⟨m9, meth, c, hn9, h1, h2, h3, h4, -, h5, h6, -⟩ := Cond.codeWith_spec (atoms_spec (ws := ws) h _ (by rw [hw]; exact List.mem_cons_self))
    cases hn.symm.trans hn9
    exact ⟨meth, c, h1, h2, h3, h4, h5, h6⟩
  · intro p e s m args below meth c s₁ B hml hP _
    have hh0 : s₁.heap = s.heap := by rw [B.state]; rfl
    obtain ⟨t, a1, o, b1, b2, b3⟩ := body p e s m args below meth c s₁ B hml hP s₁ hh0 (Stand.of_body B)
    exact ⟨t, o, a1, b1, b2, b3⟩
/-! ===== END ===== -/
end
section
/-! ===== BEGIN printed: names, fields, word lists, decode rows ===== -/
def RX0 : String := "ColdCreamery$Cellar"
def TX0 : u_T := fun k => match k with
  | 0 => ("ColdCreamery$Cellar", "stock", "[I", true)
  | 1 => ("ColdCreamery$Cellar", "heats", "[I", true)
  | 2 => ("ColdCreamery$Cellar", "churns", "[LColdCreamery$Churn;", true)
  | 3 => ("ColdCreamery$Cellar", "tubs", "[LColdCreamery$Tub;", true)
  | 4 => ("ColdCreamery$Cellar", "churnCount", "I", false)
  | 5 => ("ColdCreamery$Cellar", "tubCount", "I", false)
  | 6 => ("ColdCreamery$Cellar", "hour", "I", false)
  | 7 => ("ColdCreamery$Cellar", "coins", "I", false)
  | _ => ("ColdCreamery$Cellar", "sentAway", "I", false)
def tyX0 : Nat → FieldType := fun k => match k with
  | 0 => .array .int
  | 1 => .array .int
  | 2 => .array (.object "ColdCreamery$Churn")
  | 3 => .array (.object "ColdCreamery$Tub")
  | 4 => .int
  | 5 => .int
  | 6 => .int
  | 7 => .int
  | _ => .int
abbrev wsX00 : List Cond := u_ws RX0 TX0 9
theorem nmX0 : ∀ a, a < 9 → ∀ b, b < 9 → a ≠ b → (TX0 a).2.1 ≠ (TX0 b).2.1 := by decide +kernel
theorem tyX0_ok : ∀ k, k < 9 → parseFieldDescriptor (TX0 k).2.2.1 = some (tyX0 k) := by decide +kernel
abbrev cX0_init : ByteArray := prog_2_method_1_code
def yX0_init : MethodName := ⟨RX0, "<init>", "()V"⟩
abbrev cX0_number : ByteArray := prog_2_method_2_code
def yX0_number : MethodName := ⟨RX0, "number", "(I)I"⟩
abbrev cX0_heatAt : ByteArray := prog_2_method_3_code
def yX0_heatAt : MethodName := ⟨RX0, "heatAt", "(I)I"⟩
abbrev cX0_scoopsInTubs : ByteArray := prog_2_method_4_code
def yX0_scoopsInTubs : MethodName := ⟨RX0, "scoopsInTubs", "()I"⟩
abbrev cX0_soldScoops : ByteArray := prog_2_method_5_code
def yX0_soldScoops : MethodName := ⟨RX0, "soldScoops", "()I"⟩
abbrev cX0_sellingTub : ByteArray := prog_2_method_6_code
def yX0_sellingTub : MethodName := ⟨RX0, "sellingTub", "()I"⟩
abbrev cX0_runHours : ByteArray := prog_2_method_7_code
def yX0_runHours : MethodName := ⟨RX0, "runHours", "(I)V"⟩
abbrev cX0_runHour : ByteArray := prog_2_method_8_code
def yX0_runHour : MethodName := ⟨RX0, "runHour", "()V"⟩
abbrev cX0_servePeople : ByteArray := prog_2_method_9_code
def yX0_servePeople : MethodName := ⟨RX0, "servePeople", "(I)V"⟩
abbrev cX0_serveOne : ByteArray := prog_2_method_10_code
def yX0_serveOne : MethodName := ⟨RX0, "serveOne", "()V"⟩
abbrev cX0_hoursUntilFirm : ByteArray := prog_2_method_11_code
def yX0_hoursUntilFirm : MethodName := ⟨RX0, "hoursUntilFirm", "(LColdCreamery$Churn;)I"⟩
abbrev cX0_hoursUntilNoIce : ByteArray := prog_2_method_12_code
def yX0_hoursUntilNoIce : MethodName := ⟨RX0, "hoursUntilNoIce", "()I"⟩
abbrev cX0_copyFrom : ByteArray := prog_2_method_13_code
def yX0_copyFrom : MethodName := ⟨RX0, "copyFrom", "(LColdCreamery$Cellar;)V"⟩
def RX1 : String := "ColdCreamery$Churn"
def TX1 : u_T := fun k => match k with
  | 0 => ("ColdCreamery$Churn", "cold", "I", false)
  | 1 => ("ColdCreamery$Churn", "cream", "I", false)
  | _ => ("ColdCreamery$Churn", "firm", "I", false)
def tyX1 : Nat → FieldType := fun k => match k with
  | 0 => .int
  | 1 => .int
  | _ => .int
abbrev wsX10 : List Cond := u_ws RX1 TX1 3
theorem nmX1 : ∀ a, a < 3 → ∀ b, b < 3 → a ≠ b → (TX1 a).2.1 ≠ (TX1 b).2.1 := by decide +kernel
theorem tyX1_ok : ∀ k, k < 3 → parseFieldDescriptor (TX1 k).2.2.1 = some (tyX1 k) := by decide +kernel
abbrev cX1_init : ByteArray := prog_3_method_1_code
def yX1_init : MethodName := ⟨RX1, "<init>", "()V"⟩
abbrev cX1_number : ByteArray := prog_3_method_2_code
def yX1_number : MethodName := ⟨RX1, "number", "(I)I"⟩
abbrev cX1_add : ByteArray := prog_3_method_3_code
def yX1_add : MethodName := ⟨RX1, "add", "(I)V"⟩
abbrev cX1_turn : ByteArray := prog_3_method_4_code
def yX1_turn : MethodName := ⟨RX1, "turn", "(I)V"⟩
abbrev cX1_copyFrom : ByteArray := prog_3_method_5_code
def yX1_copyFrom : MethodName := ⟨RX1, "copyFrom", "(LColdCreamery$Churn;)V"⟩
def RX2 : String := "ColdCreamery$Tub"
def TX2 : u_T := fun k => match k with
  | 0 => ("ColdCreamery$Tub", "scoops", "I", false)
  | 1 => ("ColdCreamery$Tub", "soft", "I", false)
  | _ => ("ColdCreamery$Tub", "sold", "I", false)
def tyX2 : Nat → FieldType := fun k => match k with
  | 0 => .int
  | 1 => .int
  | _ => .int
abbrev wsX20 : List Cond := u_ws RX2 TX2 3
theorem nmX2 : ∀ a, a < 3 → ∀ b, b < 3 → a ≠ b → (TX2 a).2.1 ≠ (TX2 b).2.1 := by decide +kernel
theorem tyX2_ok : ∀ k, k < 3 → parseFieldDescriptor (TX2 k).2.2.1 = some (tyX2 k) := by decide +kernel
abbrev cX2_init : ByteArray := prog_4_method_1_code
def yX2_init : MethodName := ⟨RX2, "<init>", "()V"⟩
abbrev cX2_number : ByteArray := prog_4_method_2_code
def yX2_number : MethodName := ⟨RX2, "number", "(I)I"⟩
abbrev cX2_take : ByteArray := prog_4_method_3_code
def yX2_take : MethodName := ⟨RX2, "take", "(II)V"⟩
abbrev cX2_standInHeat : ByteArray := prog_4_method_4_code
def yX2_standInHeat : MethodName := ⟨RX2, "standInHeat", "(II)V"⟩
abbrev cX2_sellScoop : ByteArray := prog_4_method_5_code
def yX2_sellScoop : MethodName := ⟨RX2, "sellScoop", "()I"⟩
abbrev cX2_forgetSoftnessIfEmpty : ByteArray := prog_4_method_6_code
def yX2_forgetSoftnessIfEmpty : MethodName := ⟨RX2, "forgetSoftnessIfEmpty", "()V"⟩
abbrev cX2_copyFrom : ByteArray := prog_4_method_7_code
def yX2_copyFrom : MethodName := ⟨RX2, "copyFrom", "(LColdCreamery$Tub;)V"⟩
def RX3 : String := "ColdCreamery"
def TX3 : u_T := fun k => match k with
  | 0 => ("ColdCreamery", "cellar", "LColdCreamery$Cellar;", true)
  | _ => ("ColdCreamery", "foreseen", "LColdCreamery$Cellar;", true)
def tyX3 : Nat → FieldType := fun k => match k with
  | 0 => .object "ColdCreamery$Cellar"
  | _ => .object "ColdCreamery$Cellar"
abbrev wsX30 : List Cond := u_ws RX3 TX3 2
theorem nmX3 : ∀ a, a < 2 → ∀ b, b < 2 → a ≠ b → (TX3 a).2.1 ≠ (TX3 b).2.1 := by decide +kernel
theorem tyX3_ok : ∀ k, k < 2 → parseFieldDescriptor (TX3 k).2.2.1 = some (tyX3 k) := by decide +kernel
abbrev cX3_init : ByteArray := prog_1_method_1_code
def yX3_init : MethodName := ⟨RX3, "<init>", "()V"⟩
abbrev cX3_bring : ByteArray := prog_1_method_2_code
def yX3_bring : MethodName := ⟨RX3, "bring", "(II)I"⟩
abbrev cX3_setHeat : ByteArray := prog_1_method_3_code
def yX3_setHeat : MethodName := ⟨RX3, "setHeat", "(II)I"⟩
abbrev cX3_churn : ByteArray := prog_1_method_4_code
def yX3_churn : MethodName := ⟨RX3, "churn", "()I"⟩
abbrev cX3_tub : ByteArray := prog_1_method_5_code
def yX3_tub : MethodName := ⟨RX3, "tub", "()I"⟩
abbrev cX3_pack : ByteArray := prog_1_method_6_code
def yX3_pack : MethodName := ⟨RX3, "pack", "(III)I"⟩
abbrev cX3_pour : ByteArray := prog_1_method_7_code
def yX3_pour : MethodName := ⟨RX3, "pour", "(II)I"⟩
abbrev cX3_scoop : ByteArray := prog_1_method_8_code
def yX3_scoop : MethodName := ⟨RX3, "scoop", "(II)I"⟩
abbrev cX3_told : ByteArray := prog_1_method_9_code
def yX3_told : MethodName := ⟨RX3, "told", "(II)I"⟩
abbrev cX3_about : ByteArray := prog_1_method_10_code
def yX3_about : MethodName := ⟨RX3, "about", "(II)I"⟩
abbrev cX3_count : ByteArray := prog_1_method_11_code
def yX3_count : MethodName := ⟨RX3, "count", "(I)I"⟩
abbrev cX3_next : ByteArray := prog_1_method_12_code
def yX3_next : MethodName := ⟨RX3, "next", "()I"⟩
abbrev cX3_pass : ByteArray := prog_1_method_13_code
def yX3_pass : MethodName := ⟨RX3, "pass", "(I)I"⟩
abbrev cX3_done : ByteArray := prog_1_method_14_code
def yX3_done : MethodName := ⟨RX3, "done", "(I)I"⟩
abbrev cX3_foresee : ByteArray := prog_1_method_15_code
def yX3_foresee : MethodName := ⟨RX3, "foresee", "(II)I"⟩
abbrev cX3_lasts : ByteArray := prog_1_method_16_code
def yX3_lasts : MethodName := ⟨RX3, "lasts", "()I"⟩
abbrev cX3_salt : ByteArray := prog_1_method_17_code
def yX3_salt : MethodName := ⟨RX3, "salt", "(II)I"⟩
abbrev cX3_share : ByteArray := prog_1_method_18_code
def yX3_share : MethodName := ⟨RX3, "share", "()D"⟩
abbrev cX3_digest : ByteArray := prog_1_method_19_code
def yX3_digest : MethodName := ⟨RX3, "digest", "()J"⟩
abbrev cX3_existingChurn : ByteArray := prog_1_method_20_code
def yX3_existingChurn : MethodName := ⟨RX3, "existingChurn", "(I)LColdCreamery$Churn;"⟩
abbrev cX3_existingTub : ByteArray := prog_1_method_21_code
def yX3_existingTub : MethodName := ⟨RX3, "existingTub", "(I)LColdCreamery$Tub;"⟩
abbrev cX3_checkPacked : ByteArray := prog_1_method_22_code
def yX3_checkPacked : MethodName := ⟨RX3, "checkPacked", "(I)V"⟩
abbrev cX3_checkHours : ByteArray := prog_1_method_23_code
def yX3_checkHours : MethodName := ⟨RX3, "checkHours", "(I)V"⟩
abbrev cX3_coldOfIce : ByteArray := prog_1_method_24_code
def yX3_coldOfIce : MethodName := ⟨RX3, "coldOfIce", "(I)I"⟩
abbrev cX3_coldWithBrine : ByteArray := prog_1_method_25_code
def yX3_coldWithBrine : MethodName := ⟨RX3, "coldWithBrine", "(III)I"⟩
abbrev cX3_firmAfterHour : ByteArray := prog_1_method_26_code
def yX3_firmAfterHour : MethodName := ⟨RX3, "firmAfterHour", "(II)I"⟩
abbrev cX3_coldAfterHour : ByteArray := prog_1_method_27_code
def yX3_coldAfterHour : MethodName := ⟨RX3, "coldAfterHour", "(II)I"⟩
abbrev cX3_iceAfterHour : ByteArray := prog_1_method_28_code
def yX3_iceAfterHour : MethodName := ⟨RX3, "iceAfterHour", "(III)I"⟩
abbrev cX3_mixed : ByteArray := prog_1_method_29_code
def yX3_mixed : MethodName := ⟨RX3, "mixed", "(JJ)J"⟩
def RX4 : String := "ColdCreameryModel"
def TX4 : u_T := fun k => match k with
  | 0 => ("ColdCreameryModel", "thrown", "I", false)
  | 1 => ("ColdCreameryModel", "churns", "I", false)
  | 2 => ("ColdCreameryModel", "tubs", "I", false)
  | 3 => ("ColdCreameryModel", "s", "[I", true)
  | 4 => ("ColdCreameryModel", "kept", "[I", true)
  | _ => ("ColdCreameryModel", "heat", "[I", true)
def tyX4 : Nat → FieldType := fun k => match k with
  | 0 => .int
  | 1 => .int
  | 2 => .int
  | 3 => .array .int
  | 4 => .array .int
  | _ => .array .int
abbrev wsX40 : List Cond := u_ws RX4 TX4 6
theorem nmX4 : ∀ a, a < 6 → ∀ b, b < 6 → a ≠ b → (TX4 a).2.1 ≠ (TX4 b).2.1 := by decide +kernel
theorem tyX4_ok : ∀ k, k < 6 → parseFieldDescriptor (TX4 k).2.2.1 = some (tyX4 k) := by decide +kernel
abbrev cX4_init : ByteArray := prog_6_method_1_code
def yX4_init : MethodName := ⟨RX4, "<init>", "()V"⟩
abbrev cX4_thrown : ByteArray := prog_6_method_2_code
def yX4_thrown : MethodName := ⟨RX4, "thrown", "()I"⟩
abbrev cX4_no : ByteArray := prog_6_method_3_code
def yX4_no : MethodName := ⟨RX4, "no", "(I)I"⟩
abbrev cX4_isIn : ByteArray := prog_6_method_4_code
def yX4_isIn : MethodName := ⟨RX4, "isIn", "(III)Z"⟩
abbrev cX4_isChurn : ByteArray := prog_6_method_5_code
def yX4_isChurn : MethodName := ⟨RX4, "isChurn", "(I)Z"⟩
abbrev cX4_isTub : ByteArray := prog_6_method_6_code
def yX4_isTub : MethodName := ⟨RX4, "isTub", "(I)Z"⟩
abbrev cX4_ch : ByteArray := prog_6_method_7_code
def yX4_ch : MethodName := ⟨RX4, "ch", "(II)I"⟩
abbrev cX4_tu : ByteArray := prog_6_method_8_code
def yX4_tu : MethodName := ⟨RX4, "tu", "(II)I"⟩
abbrev cX4_setChurn : ByteArray := prog_6_method_9_code
def yX4_setChurn : MethodName := ⟨RX4, "setChurn", "(III)V"⟩
abbrev cX4_setTub : ByteArray := prog_6_method_10_code
def yX4_setTub : MethodName := ⟨RX4, "setTub", "(III)V"⟩
abbrev cX4_bring : ByteArray := prog_6_method_11_code
def yX4_bring : MethodName := ⟨RX4, "bring", "(II)I"⟩
abbrev cX4_setHeat : ByteArray := prog_6_method_12_code
def yX4_setHeat : MethodName := ⟨RX4, "setHeat", "(II)I"⟩
abbrev cX4_heatNow : ByteArray := prog_6_method_13_code
def yX4_heatNow : MethodName := ⟨RX4, "heatNow", "()I"⟩
abbrev cX4_churn : ByteArray := prog_6_method_14_code
def yX4_churn : MethodName := ⟨RX4, "churn", "()I"⟩
abbrev cX4_tub : ByteArray := prog_6_method_15_code
def yX4_tub : MethodName := ⟨RX4, "tub", "()I"⟩
abbrev cX4_packed : ByteArray := prog_6_method_16_code
def yX4_packed : MethodName := ⟨RX4, "packed", "(III)I"⟩
abbrev cX4_pack : ByteArray := prog_6_method_17_code
def yX4_pack : MethodName := ⟨RX4, "pack", "(III)I"⟩
abbrev cX4_pour : ByteArray := prog_6_method_18_code
def yX4_pour : MethodName := ⟨RX4, "pour", "(II)I"⟩
abbrev cX4_scoop : ByteArray := prog_6_method_19_code
def yX4_scoop : MethodName := ⟨RX4, "scoop", "(II)I"⟩
abbrev cX4_told : ByteArray := prog_6_method_20_code
def yX4_told : MethodName := ⟨RX4, "told", "(II)I"⟩
abbrev cX4_about : ByteArray := prog_6_method_21_code
def yX4_about : MethodName := ⟨RX4, "about", "(II)I"⟩
abbrev cX4_sum : ByteArray := prog_6_method_22_code
def yX4_sum : MethodName := ⟨RX4, "sum", "(I)I"⟩
abbrev cX4_counted : ByteArray := prog_6_method_23_code
def yX4_counted : MethodName := ⟨RX4, "counted", "(I)I"⟩
abbrev cX4_count : ByteArray := prog_6_method_24_code
def yX4_count : MethodName := ⟨RX4, "count", "(I)I"⟩
abbrev cX4_nextTub : ByteArray := prog_6_method_25_code
def yX4_nextTub : MethodName := ⟨RX4, "nextTub", "()I"⟩
abbrev cX4_next : ByteArray := prog_6_method_26_code
def yX4_next : MethodName := ⟨RX4, "next", "()I"⟩
abbrev cX4_firmUp : ByteArray := prog_6_method_27_code
def yX4_firmUp : MethodName := ⟨RX4, "firmUp", "(II)V"⟩
abbrev cX4_soften : ByteArray := prog_6_method_28_code
def yX4_soften : MethodName := ⟨RX4, "soften", "(II)V"⟩
abbrev cX4_sell : ByteArray := prog_6_method_29_code
def yX4_sell : MethodName := ⟨RX4, "sell", "()V"⟩
abbrev cX4_hourOn : ByteArray := prog_6_method_30_code
def yX4_hourOn : MethodName := ⟨RX4, "hourOn", "()V"⟩
abbrev cX4_pass : ByteArray := prog_6_method_31_code
def yX4_pass : MethodName := ⟨RX4, "pass", "(I)I"⟩
abbrev cX4_keep : ByteArray := prog_6_method_32_code
def yX4_keep : MethodName := ⟨RX4, "keep", "()V"⟩
abbrev cX4_bringBack : ByteArray := prog_6_method_33_code
def yX4_bringBack : MethodName := ⟨RX4, "bringBack", "()V"⟩
abbrev cX4_done : ByteArray := prog_6_method_34_code
def yX4_done : MethodName := ⟨RX4, "done", "(I)I"⟩
abbrev cX4_foresee : ByteArray := prog_6_method_35_code
def yX4_foresee : MethodName := ⟨RX4, "foresee", "(II)I"⟩
abbrev cX4_lasts : ByteArray := prog_6_method_36_code
def yX4_lasts : MethodName := ⟨RX4, "lasts", "()I"⟩
abbrev cX4_salt : ByteArray := prog_6_method_37_code
def yX4_salt : MethodName := ⟨RX4, "salt", "(II)I"⟩
abbrev cX4_share : ByteArray := prog_6_method_38_code
def yX4_share : MethodName := ⟨RX4, "share", "()D"⟩
abbrev cX4_digest : ByteArray := prog_6_method_39_code
def yX4_digest : MethodName := ⟨RX4, "digest", "()J"⟩
def RJx145de : String := "java/io/Serializable"
def TJx145de : u_T := fun k => match k with
  | _ => ("", "", "", false)
def tyJx145de : Nat → FieldType := fun k => match k with
  | _ => .int
abbrev wsJx145de0 : List Cond := u_ws RJx145de TJx145de 0
theorem nmJx145de : ∀ a, a < 0 → ∀ b, b < 0 → a ≠ b → (TJx145de a).2.1 ≠ (TJx145de b).2.1 := by decide +kernel
theorem tyJx145de_ok : ∀ k, k < 0 → parseFieldDescriptor (TJx145de k).2.2.1 = some (tyJx145de k) := by decide +kernel
def RJ9 : String := "java/lang/Math"
def TJ9 : u_T := fun k => match k with
  | _ => ("", "", "", false)
def tyJ9 : Nat → FieldType := fun k => match k with
  | _ => .int
abbrev wsJ90 : List Cond := u_ws RJ9 TJ9 0
theorem nmJ9 : ∀ a, a < 0 → ∀ b, b < 0 → a ≠ b → (TJ9 a).2.1 ≠ (TJ9 b).2.1 := by decide +kernel
theorem tyJ9_ok : ∀ k, k < 0 → parseFieldDescriptor (TJ9 k).2.2.1 = some (tyJ9 k) := by decide +kernel
abbrev cJ9_floorMod_7cf53 : ByteArray := prog_11_method_50_code
def yJ9_floorMod_7cf53 : MethodName := ⟨RJ9, "floorMod", "(II)I"⟩
abbrev cJ9_max_7cf53 : ByteArray := prog_11_method_65_code
def yJ9_max_7cf53 : MethodName := ⟨RJ9, "max", "(II)I"⟩
abbrev cJ9_min_7cf53 : ByteArray := prog_11_method_69_code
def yJ9_min_7cf53 : MethodName := ⟨RJ9, "min", "(II)I"⟩
def RJ0 : String := "java/lang/String"
def TJ0 : u_T := fun k => match k with
  | _ => ("", "", "", false)
def tyJ0 : Nat → FieldType := fun k => match k with
  | _ => .int
abbrev wsJ00 : List Cond := u_ws RJ0 TJ0 0
theorem nmJ0 : ∀ a, a < 0 → ∀ b, b < 0 → a ≠ b → (TJ0 a).2.1 ≠ (TJ0 b).2.1 := by decide +kernel
theorem tyJ0_ok : ∀ k, k < 0 → parseFieldDescriptor (TJ0 k).2.2.1 = some (tyJ0 k) := by decide +kernel
def RJ10 : String := "java/lang/System"
def TJ10 : u_T := fun k => match k with
  | _ => ("", "", "", false)
def tyJ10 : Nat → FieldType := fun k => match k with
  | _ => .int
abbrev wsJ100 : List Cond := u_ws RJ10 TJ10 0
theorem nmJ10 : ∀ a, a < 0 → ∀ b, b < 0 → a ≠ b → (TJ10 a).2.1 ≠ (TJ10 b).2.1 := by decide +kernel
theorem tyJ10_ok : ∀ k, k < 0 → parseFieldDescriptor (TJ10 k).2.2.1 = some (tyJ10 k) := by decide +kernel
def RJ7 : String := "java/util/Arrays"
def TJ7 : u_T := fun k => match k with
  | _ => ("", "", "", false)
def tyJ7 : Nat → FieldType := fun k => match k with
  | _ => .int
abbrev wsJ70 : List Cond := u_ws RJ7 TJ7 0
theorem nmJ7 : ∀ a, a < 0 → ∀ b, b < 0 → a ≠ b → (TJ7 a).2.1 ≠ (TJ7 b).2.1 := by decide +kernel
theorem tyJ7_ok : ∀ k, k < 0 → parseFieldDescriptor (TJ7 k).2.2.1 = some (tyJ7 k) := by decide +kernel
abbrev cJ7_fill_53178 : ByteArray := prog_16_method_103_code
def yJ7_fill_53178 : MethodName := ⟨RJ7, "fill", "([II)V"⟩
def RL : String := "ColdCreameryLaw"
abbrev cL_bring : ByteArray := method_3_code
def yL_bring : MethodName := ⟨RL, "bring", "(LColdCreamery;II[J)I"⟩
abbrev cL_setHeat : ByteArray := method_4_code
def yL_setHeat : MethodName := ⟨RL, "setHeat", "(LColdCreamery;II[J)I"⟩
abbrev cL_churn : ByteArray := method_5_code
def yL_churn : MethodName := ⟨RL, "churn", "(LColdCreamery;[J)I"⟩
abbrev cL_tub : ByteArray := method_6_code
def yL_tub : MethodName := ⟨RL, "tub", "(LColdCreamery;[J)I"⟩
abbrev cL_pack : ByteArray := method_7_code
def yL_pack : MethodName := ⟨RL, "pack", "(LColdCreamery;III[J)I"⟩
abbrev cL_pour : ByteArray := method_8_code
def yL_pour : MethodName := ⟨RL, "pour", "(LColdCreamery;II[J)I"⟩
abbrev cL_scoop : ByteArray := method_9_code
def yL_scoop : MethodName := ⟨RL, "scoop", "(LColdCreamery;II[J)I"⟩
abbrev cL_told : ByteArray := method_10_code
def yL_told : MethodName := ⟨RL, "told", "(LColdCreamery;II[J)I"⟩
abbrev cL_about : ByteArray := method_11_code
def yL_about : MethodName := ⟨RL, "about", "(LColdCreamery;II[J)I"⟩
abbrev cL_count : ByteArray := method_12_code
def yL_count : MethodName := ⟨RL, "count", "(LColdCreamery;I[J)I"⟩
abbrev cL_pass : ByteArray := method_13_code
def yL_pass : MethodName := ⟨RL, "pass", "(LColdCreamery;I[J)I"⟩
abbrev cL_done : ByteArray := method_14_code
def yL_done : MethodName := ⟨RL, "done", "(LColdCreamery;I[J)I"⟩
abbrev cL_foresee : ByteArray := method_15_code
def yL_foresee : MethodName := ⟨RL, "foresee", "(LColdCreamery;II[J)I"⟩
abbrev cL_salt : ByteArray := method_16_code
def yL_salt : MethodName := ⟨RL, "salt", "(LColdCreamery;II[J)I"⟩
abbrev cL_law : ByteArray := code
def yL_law : MethodName := ⟨RL, "law", "([I)Z"⟩
def wsJ7_fill_53178 : List Cond := .code yJ7_fill_53178 cJ7_fill_53178 4 none :: ([])
def wsX1_init : List Cond := .code yX1_init cX1_init 1 none :: ([.methodLink RX1 1 objectInit, .instanceMethod objectInit, .code objectInit ⟨#[0xb1]⟩ 1 none])
def wsX2_init : List Cond := .code yX2_init cX2_init 1 none :: ([.methodLink RX2 3 objectInit, .instanceMethod objectInit, .code objectInit ⟨#[0xb1]⟩ 1 none])
def wsX0_init : List Cond := .code yX0_init cX0_init 2 none :: ([.methodLink RX0 3 objectInit, .instanceMethod objectInit, .code objectInit ⟨#[0xb1]⟩ 1 none, .arrayClass .int, .fieldLink RX0 13 "ColdCreamery$Cellar" "stock" "[I", .fieldLink RX0 18 "ColdCreamery$Cellar" "heats" "[I", .classLink RX0 21 RX1, .fieldLink RX0 23 "ColdCreamery$Cellar" "churns" "[LColdCreamery$Churn;", .classLink RX0 27 RX2, .fieldLink RX0 29 "ColdCreamery$Cellar" "tubs" "[LColdCreamery$Tub;", .instantiable RX1 3, .initialized RX1, .instantiable RX2 3, .initialized RX2, .methodLink RX0 33 yJ7_fill_53178, .static yJ7_fill_53178, .initialized RJ7, .code yJ7_fill_53178 cJ7_fill_53178 4 none, .instanceMethod yX1_init, .code yX1_init cX1_init 1 none, .methodLink RX1 1 objectInit, .instanceMethod yX2_init, .code yX2_init cX2_init 1 none, .methodLink RX2 3 objectInit] ++ wsX00 ++ wsX10 ++ wsX20)
def wsJ9_floorMod_7cf53 : List Cond := .code yJ9_floorMod_7cf53 cJ9_floorMod_7cf53 3 (some .int) :: ([])
def wsX0_heatAt : List Cond := .code yX0_heatAt cX0_heatAt 2 (some .int) :: ([.fieldLink RX0 18 "ColdCreamery$Cellar" "heats" "[I", .methodLink RX0 62 yJ9_floorMod_7cf53, .static yJ9_floorMod_7cf53, .initialized RJ9, .code yJ9_floorMod_7cf53 cJ9_floorMod_7cf53 3 (some .int)] ++ wsX00)
def wsX0_scoopsInTubs : List Cond := .code yX0_scoopsInTubs cX0_scoopsInTubs 3 (some .int) :: ([.fieldLink RX0 68 "ColdCreamery$Cellar" "tubCount" "I", .fieldLink RX0 29 "ColdCreamery$Cellar" "tubs" "[LColdCreamery$Tub;"] ++ wsX00 ++ wsX20)
def wsX0_soldScoops : List Cond := .code yX0_soldScoops cX0_soldScoops 3 (some .int) :: ([.fieldLink RX0 68 "ColdCreamery$Cellar" "tubCount" "I", .fieldLink RX0 29 "ColdCreamery$Cellar" "tubs" "[LColdCreamery$Tub;"] ++ wsX00 ++ wsX20)
def wsX0_number : List Cond := .code yX0_number cX0_number 2 (some .int) :: ([.fieldLink RX0 41 "ColdCreamery$Cellar" "hour" "I", .fieldLink RX0 13 "ColdCreamery$Cellar" "stock" "[I", .fieldLink RX0 49 "ColdCreamery$Cellar" "coins" "I", .fieldLink RX0 59 "ColdCreamery$Cellar" "sentAway" "I", .methodLink RX0 45 yX0_heatAt, .instanceMethod yX0_heatAt, .selects RX0 yX0_heatAt yX0_heatAt, .initialized RX0, .code yX0_heatAt cX0_heatAt 2 (some .int), .fieldLink RX0 18 "ColdCreamery$Cellar" "heats" "[I", .methodLink RX0 62 yJ9_floorMod_7cf53, .static yJ9_floorMod_7cf53, .initialized RJ9, .code yJ9_floorMod_7cf53 cJ9_floorMod_7cf53 3 (some .int), .methodLink RX0 52 yX0_scoopsInTubs, .instanceMethod yX0_scoopsInTubs, .selects RX0 yX0_scoopsInTubs yX0_scoopsInTubs, .code yX0_scoopsInTubs cX0_scoopsInTubs 3 (some .int), .fieldLink RX0 68 "ColdCreamery$Cellar" "tubCount" "I", .fieldLink RX0 29 "ColdCreamery$Cellar" "tubs" "[LColdCreamery$Tub;", .methodLink RX0 56 yX0_soldScoops, .instanceMethod yX0_soldScoops, .selects RX0 yX0_soldScoops yX0_soldScoops, .code yX0_soldScoops cX0_soldScoops 3 (some .int)] ++ wsX00 ++ wsX20)
def wsX0_sellingTub : List Cond := .code yX0_sellingTub cX0_sellingTub 4 (some .int) :: ([.fieldLink RX0 68 "ColdCreamery$Cellar" "tubCount" "I", .fieldLink RX0 29 "ColdCreamery$Cellar" "tubs" "[LColdCreamery$Tub;"] ++ wsX00 ++ wsX20)
def wsX3_firmAfterHour : List Cond := .code yX3_firmAfterHour cX3_firmAfterHour 2 (some .int) :: ([.methodLink RX3 38 Lib.Math.min.name, .static Lib.Math.min.name, .initialized "java/lang/Math", .code Lib.Math.min.name Lib.Math.min.code 2 (some .int)])
def wsX3_coldAfterHour : List Cond := .code yX3_coldAfterHour cX3_coldAfterHour 2 (some .int) :: ([.methodLink RX3 153 Lib.Math.max.name, .static Lib.Math.max.name, .initialized "java/lang/Math", .code Lib.Math.max.name Lib.Math.max.code 2 (some .int)])
def wsX1_turn : List Cond := .code yX1_turn cX1_turn 2 none :: ([.fieldLink RX1 13 "ColdCreamery$Churn" "cream" "I", .fieldLink RX1 16 "ColdCreamery$Churn" "firm" "I", .fieldLink RX1 7 "ColdCreamery$Churn" "cold" "I", .static yX3_firmAfterHour, .initialized RX3, .code yX3_firmAfterHour cX3_firmAfterHour 2 (some .int), .methodLink RX3 38 Lib.Math.min.name, .static Lib.Math.min.name, .initialized "java/lang/Math", .code Lib.Math.min.name Lib.Math.min.code 2 (some .int), .static yX3_coldAfterHour, .code yX3_coldAfterHour cX3_coldAfterHour 2 (some .int), .methodLink RX3 153 Lib.Math.max.name, .static Lib.Math.max.name, .code Lib.Math.max.name Lib.Math.max.code 2 (some .int)] ++ wsX10)
def wsX2_standInHeat : List Cond := .code yX2_standInHeat cX2_standInHeat 3 none :: ([.fieldLink RX2 9 "ColdCreamery$Tub" "scoops" "I", .fieldLink RX2 15 "ColdCreamery$Tub" "soft" "I", .methodLink RX2 21 Lib.Math.min.name, .static Lib.Math.min.name, .initialized "java/lang/Math", .code Lib.Math.min.name Lib.Math.min.code 2 (some .int), .methodLink RX2 27 Lib.Math.max.name, .static Lib.Math.max.name, .code Lib.Math.max.name Lib.Math.max.code 2 (some .int)] ++ wsX20)
def wsX2_sellScoop : List Cond := .code yX2_sellScoop cX2_sellScoop 1 (some .int) :: ([.fieldLink RX2 9 "ColdCreamery$Tub" "scoops" "I", .fieldLink RX2 18 "ColdCreamery$Tub" "sold" "I", .fieldLink RX2 15 "ColdCreamery$Tub" "soft" "I"] ++ wsX20)
def wsX0_serveOne : List Cond := .code yX0_serveOne cX0_serveOne 2 none :: ([.fieldLink RX0 13 "ColdCreamery$Cellar" "stock" "[I", .fieldLink RX0 59 "ColdCreamery$Cellar" "sentAway" "I", .fieldLink RX0 49 "ColdCreamery$Cellar" "coins" "I", .fieldLink RX0 29 "ColdCreamery$Cellar" "tubs" "[LColdCreamery$Tub;", .methodLink RX0 107 yX0_sellingTub, .instanceMethod yX0_sellingTub, .selects RX0 yX0_sellingTub yX0_sellingTub, .initialized RX0, .code yX0_sellingTub cX0_sellingTub 4 (some .int), .fieldLink RX0 68 "ColdCreamery$Cellar" "tubCount" "I", .methodLink RX0 110 yX2_sellScoop, .instanceMethod yX2_sellScoop, .selects RX2 yX2_sellScoop yX2_sellScoop, .initialized RX2, .code yX2_sellScoop cX2_sellScoop 1 (some .int), .fieldLink RX2 9 "ColdCreamery$Tub" "scoops" "I", .fieldLink RX2 18 "ColdCreamery$Tub" "sold" "I", .fieldLink RX2 15 "ColdCreamery$Tub" "soft" "I"] ++ wsX00 ++ wsX20)
def wsX0_servePeople : List Cond := .code yX0_servePeople cX0_servePeople 5 none :: ([.fieldLink RX0 41 "ColdCreamery$Cellar" "hour" "I", .methodLink RX0 104 yX0_serveOne, .instanceMethod yX0_serveOne, .selects RX0 yX0_serveOne yX0_serveOne, .initialized RX0, .code yX0_serveOne cX0_serveOne 2 none, .fieldLink RX0 13 "ColdCreamery$Cellar" "stock" "[I", .fieldLink RX0 59 "ColdCreamery$Cellar" "sentAway" "I", .fieldLink RX0 49 "ColdCreamery$Cellar" "coins" "I", .fieldLink RX0 29 "ColdCreamery$Cellar" "tubs" "[LColdCreamery$Tub;", .methodLink RX0 107 yX0_sellingTub, .instanceMethod yX0_sellingTub, .selects RX0 yX0_sellingTub yX0_sellingTub, .code yX0_sellingTub cX0_sellingTub 4 (some .int), .fieldLink RX0 68 "ColdCreamery$Cellar" "tubCount" "I", .methodLink RX0 110 yX2_sellScoop, .instanceMethod yX2_sellScoop, .selects RX2 yX2_sellScoop yX2_sellScoop, .initialized RX2, .code yX2_sellScoop cX2_sellScoop 1 (some .int), .fieldLink RX2 9 "ColdCreamery$Tub" "scoops" "I", .fieldLink RX2 18 "ColdCreamery$Tub" "sold" "I", .fieldLink RX2 15 "ColdCreamery$Tub" "soft" "I"] ++ wsX00 ++ wsX20)
def wsX3_iceAfterHour : List Cond := .code yX3_iceAfterHour cX3_iceAfterHour 3 (some .int) :: ([.methodLink RX3 153 Lib.Math.max.name, .static Lib.Math.max.name, .initialized "java/lang/Math", .code Lib.Math.max.name Lib.Math.max.code 2 (some .int)])
def wsX2_forgetSoftnessIfEmpty : List Cond := .code yX2_forgetSoftnessIfEmpty cX2_forgetSoftnessIfEmpty 1 none :: ([.fieldLink RX2 9 "ColdCreamery$Tub" "scoops" "I", .fieldLink RX2 15 "ColdCreamery$Tub" "soft" "I"] ++ wsX20)
def wsX0_runHour_r1 : List Cond := [Cond.fieldLink RX0 41 "ColdCreamery$Cellar" "hour" "I", Cond.fieldLink RX0 83 "ColdCreamery$Cellar" "churnCount" "I", Cond.fieldLink RX0 23 "ColdCreamery$Cellar" "churns" "[LColdCreamery$Churn;", Cond.fieldLink RX0 68 "ColdCreamery$Cellar" "tubCount" "I", Cond.fieldLink RX0 29 "ColdCreamery$Cellar" "tubs" "[LColdCreamery$Tub;", Cond.fieldLink RX0 13 "ColdCreamery$Cellar" "stock" "[I", Cond.methodLink RX0 45 yX0_heatAt, Cond.instanceMethod yX0_heatAt, Cond.selects RX0 yX0_heatAt yX0_heatAt, Cond.initialized RX0, Cond.code yX0_heatAt cX0_heatAt 2 (some .int), Cond.fieldLink RX0 18 "ColdCreamery$Cellar" "heats" "[I", Cond.methodLink RX0 62 yJ9_floorMod_7cf53, Cond.static yJ9_floorMod_7cf53, Cond.initialized RJ9, Cond.code yJ9_floorMod_7cf53 cJ9_floorMod_7cf53 3 (some .int), Cond.methodLink RX0 86 yX1_turn, Cond.instanceMethod yX1_turn, Cond.selects RX1 yX1_turn yX1_turn, Cond.initialized RX1, Cond.code yX1_turn cX1_turn 2 none, Cond.fieldLink RX1 13 "ColdCreamery$Churn" "cream" "I", Cond.fieldLink RX1 16 "ColdCreamery$Churn" "firm" "I", Cond.fieldLink RX1 7 "ColdCreamery$Churn" "cold" "I"]
def wsX0_runHour_r2 : List Cond := [Cond.static yX3_firmAfterHour, Cond.initialized RX3, Cond.code yX3_firmAfterHour cX3_firmAfterHour 2 (some .int), Cond.methodLink RX3 38 Lib.Math.min.name, Cond.static Lib.Math.min.name, Cond.initialized "java/lang/Math", Cond.code Lib.Math.min.name Lib.Math.min.code 2 (some .int), Cond.static yX3_coldAfterHour, Cond.code yX3_coldAfterHour cX3_coldAfterHour 2 (some .int), Cond.methodLink RX3 153 Lib.Math.max.name, Cond.static Lib.Math.max.name, Cond.code Lib.Math.max.name Lib.Math.max.code 2 (some .int), Cond.methodLink RX0 90 yX2_standInHeat, Cond.instanceMethod yX2_standInHeat, Cond.selects RX2 yX2_standInHeat yX2_standInHeat, Cond.initialized RX2, Cond.code yX2_standInHeat cX2_standInHeat 3 none, Cond.fieldLink RX2 9 "ColdCreamery$Tub" "scoops" "I", Cond.fieldLink RX2 15 "ColdCreamery$Tub" "soft" "I", Cond.methodLink RX2 21 Lib.Math.min.name, Cond.methodLink RX2 27 Lib.Math.max.name, Cond.methodLink RX0 94 yX0_servePeople, Cond.instanceMethod yX0_servePeople, Cond.selects RX0 yX0_servePeople yX0_servePeople]
def wsX0_runHour_r3 : List Cond := [Cond.code yX0_servePeople cX0_servePeople 5 none, Cond.methodLink RX0 104 yX0_serveOne, Cond.instanceMethod yX0_serveOne, Cond.selects RX0 yX0_serveOne yX0_serveOne, Cond.code yX0_serveOne cX0_serveOne 2 none, Cond.fieldLink RX0 59 "ColdCreamery$Cellar" "sentAway" "I", Cond.fieldLink RX0 49 "ColdCreamery$Cellar" "coins" "I", Cond.methodLink RX0 107 yX0_sellingTub, Cond.instanceMethod yX0_sellingTub, Cond.selects RX0 yX0_sellingTub yX0_sellingTub, Cond.code yX0_sellingTub cX0_sellingTub 4 (some .int), Cond.methodLink RX0 110 yX2_sellScoop, Cond.instanceMethod yX2_sellScoop, Cond.selects RX2 yX2_sellScoop yX2_sellScoop, Cond.code yX2_sellScoop cX2_sellScoop 1 (some .int), Cond.fieldLink RX2 18 "ColdCreamery$Tub" "sold" "I", Cond.static yX3_iceAfterHour, Cond.code yX3_iceAfterHour cX3_iceAfterHour 3 (some .int), Cond.methodLink RX0 101 yX2_forgetSoftnessIfEmpty, Cond.instanceMethod yX2_forgetSoftnessIfEmpty, Cond.selects RX2 yX2_forgetSoftnessIfEmpty yX2_forgetSoftnessIfEmpty, Cond.code yX2_forgetSoftnessIfEmpty cX2_forgetSoftnessIfEmpty 1 none]
def wsX0_runHour : List Cond := .code yX0_runHour cX0_runHour 3 none :: ((wsX0_runHour_r1 ++ (wsX0_runHour_r2 ++ wsX0_runHour_r3)) ++ wsX00 ++ wsX10 ++ wsX20)
def wsX0_runHours_r1 : List Cond := [Cond.methodLink RX0 80 yX0_runHour, Cond.instanceMethod yX0_runHour, Cond.selects RX0 yX0_runHour yX0_runHour, Cond.initialized RX0, Cond.code yX0_runHour cX0_runHour 3 none, Cond.fieldLink RX0 41 "ColdCreamery$Cellar" "hour" "I", Cond.fieldLink RX0 83 "ColdCreamery$Cellar" "churnCount" "I", Cond.fieldLink RX0 23 "ColdCreamery$Cellar" "churns" "[LColdCreamery$Churn;", Cond.fieldLink RX0 68 "ColdCreamery$Cellar" "tubCount" "I", Cond.fieldLink RX0 29 "ColdCreamery$Cellar" "tubs" "[LColdCreamery$Tub;", Cond.fieldLink RX0 13 "ColdCreamery$Cellar" "stock" "[I", Cond.methodLink RX0 45 yX0_heatAt, Cond.instanceMethod yX0_heatAt, Cond.selects RX0 yX0_heatAt yX0_heatAt, Cond.code yX0_heatAt cX0_heatAt 2 (some .int), Cond.fieldLink RX0 18 "ColdCreamery$Cellar" "heats" "[I", Cond.methodLink RX0 62 yJ9_floorMod_7cf53, Cond.static yJ9_floorMod_7cf53, Cond.initialized RJ9, Cond.code yJ9_floorMod_7cf53 cJ9_floorMod_7cf53 3 (some .int), Cond.methodLink RX0 86 yX1_turn, Cond.instanceMethod yX1_turn, Cond.selects RX1 yX1_turn yX1_turn, Cond.initialized RX1]
def wsX0_runHours_r2 : List Cond := [Cond.code yX1_turn cX1_turn 2 none, Cond.fieldLink RX1 13 "ColdCreamery$Churn" "cream" "I", Cond.fieldLink RX1 16 "ColdCreamery$Churn" "firm" "I", Cond.fieldLink RX1 7 "ColdCreamery$Churn" "cold" "I", Cond.static yX3_firmAfterHour, Cond.initialized RX3, Cond.code yX3_firmAfterHour cX3_firmAfterHour 2 (some .int), Cond.methodLink RX3 38 Lib.Math.min.name, Cond.static Lib.Math.min.name, Cond.initialized "java/lang/Math", Cond.code Lib.Math.min.name Lib.Math.min.code 2 (some .int), Cond.static yX3_coldAfterHour, Cond.code yX3_coldAfterHour cX3_coldAfterHour 2 (some .int), Cond.methodLink RX3 153 Lib.Math.max.name, Cond.static Lib.Math.max.name, Cond.code Lib.Math.max.name Lib.Math.max.code 2 (some .int), Cond.methodLink RX0 90 yX2_standInHeat, Cond.instanceMethod yX2_standInHeat, Cond.selects RX2 yX2_standInHeat yX2_standInHeat, Cond.initialized RX2, Cond.code yX2_standInHeat cX2_standInHeat 3 none, Cond.fieldLink RX2 9 "ColdCreamery$Tub" "scoops" "I", Cond.fieldLink RX2 15 "ColdCreamery$Tub" "soft" "I", Cond.methodLink RX2 21 Lib.Math.min.name]
def wsX0_runHours_r3 : List Cond := [Cond.methodLink RX2 27 Lib.Math.max.name, Cond.methodLink RX0 94 yX0_servePeople, Cond.instanceMethod yX0_servePeople, Cond.selects RX0 yX0_servePeople yX0_servePeople, Cond.code yX0_servePeople cX0_servePeople 5 none, Cond.methodLink RX0 104 yX0_serveOne, Cond.instanceMethod yX0_serveOne, Cond.selects RX0 yX0_serveOne yX0_serveOne, Cond.code yX0_serveOne cX0_serveOne 2 none, Cond.fieldLink RX0 59 "ColdCreamery$Cellar" "sentAway" "I", Cond.fieldLink RX0 49 "ColdCreamery$Cellar" "coins" "I", Cond.methodLink RX0 107 yX0_sellingTub, Cond.instanceMethod yX0_sellingTub, Cond.selects RX0 yX0_sellingTub yX0_sellingTub, Cond.code yX0_sellingTub cX0_sellingTub 4 (some .int), Cond.methodLink RX0 110 yX2_sellScoop, Cond.instanceMethod yX2_sellScoop, Cond.selects RX2 yX2_sellScoop yX2_sellScoop, Cond.code yX2_sellScoop cX2_sellScoop 1 (some .int), Cond.fieldLink RX2 18 "ColdCreamery$Tub" "sold" "I", Cond.static yX3_iceAfterHour, Cond.code yX3_iceAfterHour cX3_iceAfterHour 3 (some .int), Cond.methodLink RX0 101 yX2_forgetSoftnessIfEmpty, Cond.instanceMethod yX2_forgetSoftnessIfEmpty]
def wsX0_runHours_r4 : List Cond := [Cond.selects RX2 yX2_forgetSoftnessIfEmpty yX2_forgetSoftnessIfEmpty, Cond.code yX2_forgetSoftnessIfEmpty cX2_forgetSoftnessIfEmpty 1 none]
def wsX0_runHours : List Cond := .code yX0_runHours cX0_runHours 3 none :: ((wsX0_runHours_r1 ++ (wsX0_runHours_r2 ++ (wsX0_runHours_r3 ++ wsX0_runHours_r4))) ++ wsX00 ++ wsX10 ++ wsX20)
def wsX0_hoursUntilFirm : List Cond := .code yX0_hoursUntilFirm cX0_hoursUntilFirm 5 (some .int) :: ([.fieldLink RX0 41 "ColdCreamery$Cellar" "hour" "I", .static yX3_firmAfterHour, .initialized RX3, .code yX3_firmAfterHour cX3_firmAfterHour 2 (some .int), .methodLink RX3 38 Lib.Math.min.name, .static Lib.Math.min.name, .initialized "java/lang/Math", .code Lib.Math.min.name Lib.Math.min.code 2 (some .int), .methodLink RX0 45 yX0_heatAt, .instanceMethod yX0_heatAt, .selects RX0 yX0_heatAt yX0_heatAt, .initialized RX0, .code yX0_heatAt cX0_heatAt 2 (some .int), .fieldLink RX0 18 "ColdCreamery$Cellar" "heats" "[I", .methodLink RX0 62 yJ9_floorMod_7cf53, .static yJ9_floorMod_7cf53, .initialized RJ9, .code yJ9_floorMod_7cf53 cJ9_floorMod_7cf53 3 (some .int), .static yX3_coldAfterHour, .code yX3_coldAfterHour cX3_coldAfterHour 2 (some .int), .methodLink RX3 153 Lib.Math.max.name, .static Lib.Math.max.name, .code Lib.Math.max.name Lib.Math.max.code 2 (some .int)] ++ wsX10 ++ wsX00)
def wsX0_hoursUntilNoIce : List Cond := .code yX0_hoursUntilNoIce cX0_hoursUntilNoIce 3 (some .int) :: ([.fieldLink RX0 13 "ColdCreamery$Cellar" "stock" "[I", .fieldLink RX0 41 "ColdCreamery$Cellar" "hour" "I", .methodLink RX0 45 yX0_heatAt, .instanceMethod yX0_heatAt, .selects RX0 yX0_heatAt yX0_heatAt, .initialized RX0, .code yX0_heatAt cX0_heatAt 2 (some .int), .fieldLink RX0 18 "ColdCreamery$Cellar" "heats" "[I", .methodLink RX0 62 yJ9_floorMod_7cf53, .static yJ9_floorMod_7cf53, .initialized RJ9, .code yJ9_floorMod_7cf53 cJ9_floorMod_7cf53 3 (some .int), .static yX3_iceAfterHour, .initialized RX3, .code yX3_iceAfterHour cX3_iceAfterHour 3 (some .int), .methodLink RX3 153 Lib.Math.max.name, .static Lib.Math.max.name, .initialized "java/lang/Math", .code Lib.Math.max.name Lib.Math.max.code 2 (some .int)] ++ wsX00)
def wsX1_copyFrom : List Cond := .code yX1_copyFrom cX1_copyFrom 2 none :: ([.fieldLink RX1 7 "ColdCreamery$Churn" "cold" "I", .fieldLink RX1 13 "ColdCreamery$Churn" "cream" "I", .fieldLink RX1 16 "ColdCreamery$Churn" "firm" "I"] ++ wsX10)
def wsX2_copyFrom : List Cond := .code yX2_copyFrom cX2_copyFrom 2 none :: ([.fieldLink RX2 9 "ColdCreamery$Tub" "scoops" "I", .fieldLink RX2 15 "ColdCreamery$Tub" "soft" "I", .fieldLink RX2 18 "ColdCreamery$Tub" "sold" "I"] ++ wsX20)
def wsX0_copyFrom_r1 : List Cond := [Cond.fieldLink RX0 13 "ColdCreamery$Cellar" "stock" "[I", Cond.methodLink RX0 128 arraycopyName, Cond.native arraycopyName, Cond.static arraycopyName, Cond.initialized "java/lang/System", Cond.fieldLink RX0 18 "ColdCreamery$Cellar" "heats" "[I", Cond.fieldLink RX0 23 "ColdCreamery$Cellar" "churns" "[LColdCreamery$Churn;", Cond.fieldLink RX0 29 "ColdCreamery$Cellar" "tubs" "[LColdCreamery$Tub;", Cond.fieldLink RX0 83 "ColdCreamery$Cellar" "churnCount" "I", Cond.fieldLink RX0 68 "ColdCreamery$Cellar" "tubCount" "I", Cond.fieldLink RX0 41 "ColdCreamery$Cellar" "hour" "I", Cond.fieldLink RX0 49 "ColdCreamery$Cellar" "coins" "I", Cond.fieldLink RX0 59 "ColdCreamery$Cellar" "sentAway" "I", Cond.methodLink RX0 134 yX1_copyFrom, Cond.instanceMethod yX1_copyFrom, Cond.selects RX1 yX1_copyFrom yX1_copyFrom, Cond.initialized RX1, Cond.code yX1_copyFrom cX1_copyFrom 2 none, Cond.fieldLink RX1 7 "ColdCreamery$Churn" "cold" "I", Cond.fieldLink RX1 13 "ColdCreamery$Churn" "cream" "I", Cond.fieldLink RX1 16 "ColdCreamery$Churn" "firm" "I", Cond.methodLink RX0 138 yX2_copyFrom, Cond.instanceMethod yX2_copyFrom, Cond.selects RX2 yX2_copyFrom yX2_copyFrom]
def wsX0_copyFrom_r2 : List Cond := [Cond.initialized RX2, Cond.code yX2_copyFrom cX2_copyFrom 2 none, Cond.fieldLink RX2 9 "ColdCreamery$Tub" "scoops" "I", Cond.fieldLink RX2 15 "ColdCreamery$Tub" "soft" "I", Cond.fieldLink RX2 18 "ColdCreamery$Tub" "sold" "I"]
def wsX0_copyFrom : List Cond := .code yX0_copyFrom cX0_copyFrom 3 none :: ((wsX0_copyFrom_r1 ++ wsX0_copyFrom_r2) ++ wsX00 ++ wsX10 ++ wsX20)
def wsX1_number : List Cond := .code yX1_number cX1_number 2 (some .int) :: ([.fieldLink RX1 7 "ColdCreamery$Churn" "cold" "I", .fieldLink RX1 13 "ColdCreamery$Churn" "cream" "I", .fieldLink RX1 16 "ColdCreamery$Churn" "firm" "I"] ++ wsX10)
def wsX1_add : List Cond := .code yX1_add cX1_add 3 none :: ([.fieldLink RX1 13 "ColdCreamery$Churn" "cream" "I", .fieldLink RX1 16 "ColdCreamery$Churn" "firm" "I"] ++ wsX10)
def wsX2_number : List Cond := .code yX2_number cX2_number 2 (some .int) :: ([.fieldLink RX2 9 "ColdCreamery$Tub" "scoops" "I", .fieldLink RX2 15 "ColdCreamery$Tub" "soft" "I", .fieldLink RX2 18 "ColdCreamery$Tub" "sold" "I"] ++ wsX20)
def wsX2_take : List Cond := .code yX2_take cX2_take 3 none :: ([.fieldLink RX2 9 "ColdCreamery$Tub" "scoops" "I", .methodLink RX2 21 Lib.Math.min.name, .static Lib.Math.min.name, .initialized "java/lang/Math", .code Lib.Math.min.name Lib.Math.min.code 2 (some .int), .fieldLink RX2 15 "ColdCreamery$Tub" "soft" "I", .methodLink RX2 27 Lib.Math.max.name, .static Lib.Math.max.name, .code Lib.Math.max.name Lib.Math.max.code 2 (some .int)] ++ wsX20)
def wsX3_init_r1 : List Cond := [Cond.methodLink RX3 1 objectInit, Cond.instanceMethod objectInit, Cond.code objectInit ⟨#[0xb1]⟩ 1 none, Cond.classLink RX3 7 RX0, Cond.instantiable RX0 9, Cond.initialized RX0, Cond.fieldLink RX3 10 "ColdCreamery" "cellar" "LColdCreamery$Cellar;", Cond.fieldLink RX3 16 "ColdCreamery" "foreseen" "LColdCreamery$Cellar;", Cond.methodLink RX3 9 yX0_init, Cond.instanceMethod yX0_init, Cond.code yX0_init cX0_init 2 none, Cond.methodLink RX0 3 objectInit, Cond.arrayClass .int, Cond.fieldLink RX0 13 "ColdCreamery$Cellar" "stock" "[I", Cond.fieldLink RX0 18 "ColdCreamery$Cellar" "heats" "[I", Cond.classLink RX0 21 RX1, Cond.fieldLink RX0 23 "ColdCreamery$Cellar" "churns" "[LColdCreamery$Churn;", Cond.classLink RX0 27 RX2, Cond.fieldLink RX0 29 "ColdCreamery$Cellar" "tubs" "[LColdCreamery$Tub;", Cond.instantiable RX1 3, Cond.initialized RX1, Cond.instantiable RX2 3, Cond.initialized RX2, Cond.methodLink RX0 33 yJ7_fill_53178]
def wsX3_init_r2 : List Cond := [Cond.static yJ7_fill_53178, Cond.initialized RJ7, Cond.code yJ7_fill_53178 cJ7_fill_53178 4 none, Cond.instanceMethod yX1_init, Cond.code yX1_init cX1_init 1 none, Cond.methodLink RX1 1 objectInit, Cond.instanceMethod yX2_init, Cond.code yX2_init cX2_init 1 none, Cond.methodLink RX2 3 objectInit]
def wsX3_init : List Cond := .code yX3_init cX3_init 1 none :: ((wsX3_init_r1 ++ wsX3_init_r2) ++ wsX00 ++ wsX30 ++ wsX10 ++ wsX20)
def wsX3_bring : List Cond := .code yX3_bring cX3_bring 3 (some .int) :: ([.classLink RX3 19 "java/lang/IndexOutOfBoundsException", .initialized "java/lang/IndexOutOfBoundsException", .classLink RX3 26 "java/lang/IllegalArgumentException", .initialized "java/lang/IllegalArgumentException", .fieldLink RX3 10 "ColdCreamery" "cellar" "LColdCreamery$Cellar;", .fieldLink RX3 35 "ColdCreamery" "STOCK_LIMITS" "[I", .methodLink RX3 38 Lib.Math.min.name, .static Lib.Math.min.name, .initialized "java/lang/Math", .code Lib.Math.min.name Lib.Math.min.code 2 (some .int)] ++ wsX30 ++ wsX00 ++ (vx_atS RX3 23 "java/lang/IndexOutOfBoundsException" ["java/lang/RuntimeException", "java/lang/Exception"]).filter goodWord ++ (vx_atS RX3 30 "java/lang/IllegalArgumentException" ["java/lang/RuntimeException", "java/lang/Exception"]).filter goodWord)
def wsX3_setHeat : List Cond := .code yX3_setHeat cX3_setHeat 4 (some .int) :: ([.classLink RX3 19 "java/lang/IndexOutOfBoundsException", .initialized "java/lang/IndexOutOfBoundsException", .classLink RX3 26 "java/lang/IllegalArgumentException", .initialized "java/lang/IllegalArgumentException", .fieldLink RX3 10 "ColdCreamery" "cellar" "LColdCreamery$Cellar;"] ++ wsX30 ++ wsX00 ++ (vx_atS RX3 23 "java/lang/IndexOutOfBoundsException" ["java/lang/RuntimeException", "java/lang/Exception"]).filter goodWord ++ (vx_atS RX3 30 "java/lang/IllegalArgumentException" ["java/lang/RuntimeException", "java/lang/Exception"]).filter goodWord)
def wsX3_churn : List Cond := .code yX3_churn cX3_churn 2 (some .int) :: ([.classLink RX3 55 "java/lang/IllegalStateException", .initialized "java/lang/IllegalStateException", .fieldLink RX3 10 "ColdCreamery" "cellar" "LColdCreamery$Cellar;"] ++ wsX30 ++ wsX00 ++ (vx_atS RX3 59 "java/lang/IllegalStateException" ["java/lang/RuntimeException", "java/lang/Exception"]).filter goodWord)
def wsX3_tub : List Cond := .code yX3_tub cX3_tub 2 (some .int) :: ([.classLink RX3 55 "java/lang/IllegalStateException", .initialized "java/lang/IllegalStateException", .fieldLink RX3 10 "ColdCreamery" "cellar" "LColdCreamery$Cellar;"] ++ wsX30 ++ wsX00 ++ (vx_atS RX3 59 "java/lang/IllegalStateException" ["java/lang/RuntimeException", "java/lang/Exception"]).filter goodWord)
def wsX3_existingChurn : List Cond := .code yX3_existingChurn cX3_existingChurn 2 (some (.object "ColdCreamery$Churn")) :: ([.classLink RX3 19 "java/lang/IndexOutOfBoundsException", .initialized "java/lang/IndexOutOfBoundsException", .fieldLink RX3 10 "ColdCreamery" "cellar" "LColdCreamery$Cellar;"] ++ wsX30 ++ wsX00 ++ (vx_atS RX3 23 "java/lang/IndexOutOfBoundsException" ["java/lang/RuntimeException", "java/lang/Exception"]).filter goodWord)
def wsX3_checkPacked : List Cond := .code yX3_checkPacked cX3_checkPacked 1 none :: ([.classLink RX3 26 "java/lang/IllegalArgumentException", .initialized "java/lang/IllegalArgumentException"] ++ (vx_atS RX3 30 "java/lang/IllegalArgumentException" ["java/lang/RuntimeException", "java/lang/Exception"]).filter goodWord)
def wsX3_coldOfIce : List Cond := .code yX3_coldOfIce cX3_coldOfIce 1 (some .int) :: ([])
def wsX3_coldWithBrine : List Cond := .code yX3_coldWithBrine cX3_coldWithBrine 5 (some .int) :: ([.methodLink RX3 38 Lib.Math.min.name, .static Lib.Math.min.name, .initialized "java/lang/Math", .code Lib.Math.min.name Lib.Math.min.code 2 (some .int), .methodLink RX3 150 yX3_coldOfIce, .static yX3_coldOfIce, .initialized RX3, .code yX3_coldOfIce cX3_coldOfIce 1 (some .int)])
def wsX3_pack_r1 : List Cond := [Cond.classLink RX3 55 "java/lang/IllegalStateException", Cond.initialized "java/lang/IllegalStateException", Cond.fieldLink RX3 10 "ColdCreamery" "cellar" "LColdCreamery$Cellar;", Cond.methodLink RX3 65 yX3_existingChurn, Cond.instanceMethod yX3_existingChurn, Cond.selects RX3 yX3_existingChurn yX3_existingChurn, Cond.initialized RX3, Cond.code yX3_existingChurn cX3_existingChurn 2 (some (.object "ColdCreamery$Churn")), Cond.classLink RX3 19 "java/lang/IndexOutOfBoundsException", Cond.initialized "java/lang/IndexOutOfBoundsException", Cond.methodLink RX3 69 yX3_checkPacked, Cond.static yX3_checkPacked, Cond.code yX3_checkPacked cX3_checkPacked 1 none, Cond.classLink RX3 26 "java/lang/IllegalArgumentException", Cond.initialized "java/lang/IllegalArgumentException", Cond.methodLink RX3 80 yX3_coldWithBrine, Cond.static yX3_coldWithBrine, Cond.code yX3_coldWithBrine cX3_coldWithBrine 5 (some .int), Cond.methodLink RX3 38 Lib.Math.min.name, Cond.static Lib.Math.min.name, Cond.initialized "java/lang/Math", Cond.code Lib.Math.min.name Lib.Math.min.code 2 (some .int), Cond.methodLink RX3 150 yX3_coldOfIce, Cond.static yX3_coldOfIce]
def wsX3_pack_r2 : List Cond := [Cond.code yX3_coldOfIce cX3_coldOfIce 1 (some .int)]
def wsX3_pack : List Cond := .code yX3_pack cX3_pack 5 (some .int) :: ((wsX3_pack_r1 ++ wsX3_pack_r2) ++ wsX30 ++ wsX00 ++ wsX10 ++ (vx_atS RX3 59 "java/lang/IllegalStateException" ["java/lang/RuntimeException", "java/lang/Exception"]).filter goodWord ++ (vx_atS RX3 23 "java/lang/IndexOutOfBoundsException" ["java/lang/RuntimeException", "java/lang/Exception"]).filter goodWord ++ (vx_atS RX3 30 "java/lang/IllegalArgumentException" ["java/lang/RuntimeException", "java/lang/Exception"]).filter goodWord)
def wsX3_pour : List Cond := .code yX3_pour cX3_pour 4 (some .int) :: ([.classLink RX3 26 "java/lang/IllegalArgumentException", .initialized "java/lang/IllegalArgumentException", .classLink RX3 55 "java/lang/IllegalStateException", .initialized "java/lang/IllegalStateException", .fieldLink RX3 10 "ColdCreamery" "cellar" "LColdCreamery$Cellar;", .methodLink RX3 65 yX3_existingChurn, .instanceMethod yX3_existingChurn, .selects RX3 yX3_existingChurn yX3_existingChurn, .initialized RX3, .code yX3_existingChurn cX3_existingChurn 2 (some (.object "ColdCreamery$Churn")), .classLink RX3 19 "java/lang/IndexOutOfBoundsException", .initialized "java/lang/IndexOutOfBoundsException", .methodLink RX3 93 yX1_add, .instanceMethod yX1_add, .selects RX1 yX1_add yX1_add, .initialized RX1, .code yX1_add cX1_add 3 none, .fieldLink RX1 13 "ColdCreamery$Churn" "cream" "I", .fieldLink RX1 16 "ColdCreamery$Churn" "firm" "I"] ++ wsX30 ++ wsX00 ++ wsX10 ++ (vx_atS RX3 30 "java/lang/IllegalArgumentException" ["java/lang/RuntimeException", "java/lang/Exception"]).filter goodWord ++ (vx_atS RX3 59 "java/lang/IllegalStateException" ["java/lang/RuntimeException", "java/lang/Exception"]).filter goodWord ++ (vx_atS RX3 23 "java/lang/IndexOutOfBoundsException" ["java/lang/RuntimeException", "java/lang/Exception"]).filter goodWord)
def wsX3_existingTub : List Cond := .code yX3_existingTub cX3_existingTub 2 (some (.object "ColdCreamery$Tub")) :: ([.classLink RX3 19 "java/lang/IndexOutOfBoundsException", .initialized "java/lang/IndexOutOfBoundsException", .fieldLink RX3 10 "ColdCreamery" "cellar" "LColdCreamery$Cellar;"] ++ wsX30 ++ wsX00 ++ (vx_atS RX3 23 "java/lang/IndexOutOfBoundsException" ["java/lang/RuntimeException", "java/lang/Exception"]).filter goodWord)
def wsX3_scoop_r1 : List Cond := [Cond.classLink RX3 55 "java/lang/IllegalStateException", Cond.initialized "java/lang/IllegalStateException", Cond.methodLink RX3 65 yX3_existingChurn, Cond.instanceMethod yX3_existingChurn, Cond.selects RX3 yX3_existingChurn yX3_existingChurn, Cond.initialized RX3, Cond.code yX3_existingChurn cX3_existingChurn 2 (some (.object "ColdCreamery$Churn")), Cond.classLink RX3 19 "java/lang/IndexOutOfBoundsException", Cond.initialized "java/lang/IndexOutOfBoundsException", Cond.fieldLink RX3 10 "ColdCreamery" "cellar" "LColdCreamery$Cellar;", Cond.methodLink RX3 99 yX3_existingTub, Cond.instanceMethod yX3_existingTub, Cond.selects RX3 yX3_existingTub yX3_existingTub, Cond.code yX3_existingTub cX3_existingTub 2 (some (.object "ColdCreamery$Tub")), Cond.methodLink RX3 105 yX2_take, Cond.instanceMethod yX2_take, Cond.selects RX2 yX2_take yX2_take, Cond.initialized RX2, Cond.code yX2_take cX2_take 3 none, Cond.fieldLink RX2 9 "ColdCreamery$Tub" "scoops" "I", Cond.methodLink RX2 21 Lib.Math.min.name, Cond.static Lib.Math.min.name, Cond.initialized "java/lang/Math", Cond.code Lib.Math.min.name Lib.Math.min.code 2 (some .int)]
def wsX3_scoop_r2 : List Cond := [Cond.fieldLink RX2 15 "ColdCreamery$Tub" "soft" "I", Cond.methodLink RX2 27 Lib.Math.max.name, Cond.static Lib.Math.max.name, Cond.code Lib.Math.max.name Lib.Math.max.code 2 (some .int)]
def wsX3_scoop : List Cond := .code yX3_scoop cX3_scoop 5 (some .int) :: ((wsX3_scoop_r1 ++ wsX3_scoop_r2) ++ wsX10 ++ wsX20 ++ wsX30 ++ wsX00 ++ (vx_atS RX3 59 "java/lang/IllegalStateException" ["java/lang/RuntimeException", "java/lang/Exception"]).filter goodWord ++ (vx_atS RX3 23 "java/lang/IndexOutOfBoundsException" ["java/lang/RuntimeException", "java/lang/Exception"]).filter goodWord)
def wsX3_told : List Cond := .code yX3_told cX3_told 4 (some .int) :: ([.classLink RX3 19 "java/lang/IndexOutOfBoundsException", .initialized "java/lang/IndexOutOfBoundsException", .methodLink RX3 65 yX3_existingChurn, .instanceMethod yX3_existingChurn, .selects RX3 yX3_existingChurn yX3_existingChurn, .initialized RX3, .code yX3_existingChurn cX3_existingChurn 2 (some (.object "ColdCreamery$Churn")), .fieldLink RX3 10 "ColdCreamery" "cellar" "LColdCreamery$Cellar;", .methodLink RX3 116 yX1_number, .instanceMethod yX1_number, .selects RX1 yX1_number yX1_number, .initialized RX1, .code yX1_number cX1_number 2 (some .int), .fieldLink RX1 7 "ColdCreamery$Churn" "cold" "I", .fieldLink RX1 13 "ColdCreamery$Churn" "cream" "I", .fieldLink RX1 16 "ColdCreamery$Churn" "firm" "I"] ++ wsX30 ++ wsX00 ++ wsX10 ++ (vx_atS RX3 23 "java/lang/IndexOutOfBoundsException" ["java/lang/RuntimeException", "java/lang/Exception"]).filter goodWord)
def wsX3_about : List Cond := .code yX3_about cX3_about 4 (some .int) :: ([.classLink RX3 19 "java/lang/IndexOutOfBoundsException", .initialized "java/lang/IndexOutOfBoundsException", .methodLink RX3 99 yX3_existingTub, .instanceMethod yX3_existingTub, .selects RX3 yX3_existingTub yX3_existingTub, .initialized RX3, .code yX3_existingTub cX3_existingTub 2 (some (.object "ColdCreamery$Tub")), .fieldLink RX3 10 "ColdCreamery" "cellar" "LColdCreamery$Cellar;", .methodLink RX3 120 yX2_number, .instanceMethod yX2_number, .selects RX2 yX2_number yX2_number, .initialized RX2, .code yX2_number cX2_number 2 (some .int), .fieldLink RX2 9 "ColdCreamery$Tub" "scoops" "I", .fieldLink RX2 15 "ColdCreamery$Tub" "soft" "I", .fieldLink RX2 18 "ColdCreamery$Tub" "sold" "I"] ++ wsX30 ++ wsX00 ++ wsX20 ++ (vx_atS RX3 23 "java/lang/IndexOutOfBoundsException" ["java/lang/RuntimeException", "java/lang/Exception"]).filter goodWord)
def wsX3_count_r1 : List Cond := [Cond.classLink RX3 19 "java/lang/IndexOutOfBoundsException", Cond.initialized "java/lang/IndexOutOfBoundsException", Cond.fieldLink RX3 10 "ColdCreamery" "cellar" "LColdCreamery$Cellar;", Cond.methodLink RX3 123 yX0_number, Cond.instanceMethod yX0_number, Cond.selects RX0 yX0_number yX0_number, Cond.initialized RX0, Cond.code yX0_number cX0_number 2 (some .int), Cond.fieldLink RX0 41 "ColdCreamery$Cellar" "hour" "I", Cond.fieldLink RX0 13 "ColdCreamery$Cellar" "stock" "[I", Cond.fieldLink RX0 49 "ColdCreamery$Cellar" "coins" "I", Cond.fieldLink RX0 59 "ColdCreamery$Cellar" "sentAway" "I", Cond.methodLink RX0 45 yX0_heatAt, Cond.instanceMethod yX0_heatAt, Cond.selects RX0 yX0_heatAt yX0_heatAt, Cond.code yX0_heatAt cX0_heatAt 2 (some .int), Cond.fieldLink RX0 18 "ColdCreamery$Cellar" "heats" "[I", Cond.methodLink RX0 62 yJ9_floorMod_7cf53, Cond.static yJ9_floorMod_7cf53, Cond.initialized RJ9, Cond.code yJ9_floorMod_7cf53 cJ9_floorMod_7cf53 3 (some .int), Cond.methodLink RX0 52 yX0_scoopsInTubs, Cond.instanceMethod yX0_scoopsInTubs, Cond.selects RX0 yX0_scoopsInTubs yX0_scoopsInTubs]
def wsX3_count_r2 : List Cond := [Cond.code yX0_scoopsInTubs cX0_scoopsInTubs 3 (some .int), Cond.fieldLink RX0 68 "ColdCreamery$Cellar" "tubCount" "I", Cond.fieldLink RX0 29 "ColdCreamery$Cellar" "tubs" "[LColdCreamery$Tub;", Cond.methodLink RX0 56 yX0_soldScoops, Cond.instanceMethod yX0_soldScoops, Cond.selects RX0 yX0_soldScoops yX0_soldScoops, Cond.code yX0_soldScoops cX0_soldScoops 3 (some .int)]
def wsX3_count : List Cond := .code yX3_count cX3_count 2 (some .int) :: ((wsX3_count_r1 ++ wsX3_count_r2) ++ wsX30 ++ wsX00 ++ wsX20 ++ (vx_atS RX3 23 "java/lang/IndexOutOfBoundsException" ["java/lang/RuntimeException", "java/lang/Exception"]).filter goodWord)
def wsX3_next : List Cond := .code yX3_next cX3_next 1 (some .int) :: ([.fieldLink RX3 10 "ColdCreamery" "cellar" "LColdCreamery$Cellar;", .methodLink RX3 124 yX0_sellingTub, .instanceMethod yX0_sellingTub, .selects RX0 yX0_sellingTub yX0_sellingTub, .initialized RX0, .code yX0_sellingTub cX0_sellingTub 4 (some .int), .fieldLink RX0 68 "ColdCreamery$Cellar" "tubCount" "I", .fieldLink RX0 29 "ColdCreamery$Cellar" "tubs" "[LColdCreamery$Tub;"] ++ wsX30 ++ wsX00 ++ wsX20)
def wsX3_checkHours : List Cond := .code yX3_checkHours cX3_checkHours 1 none :: ([.classLink RX3 26 "java/lang/IllegalArgumentException", .initialized "java/lang/IllegalArgumentException"] ++ (vx_atS RX3 30 "java/lang/IllegalArgumentException" ["java/lang/RuntimeException", "java/lang/Exception"]).filter goodWord)
def wsX3_pass_r1 : List Cond := [Cond.fieldLink RX3 10 "ColdCreamery" "cellar" "LColdCreamery$Cellar;", Cond.methodLink RX3 128 yX3_checkHours, Cond.static yX3_checkHours, Cond.initialized RX3, Cond.code yX3_checkHours cX3_checkHours 1 none, Cond.classLink RX3 26 "java/lang/IllegalArgumentException", Cond.initialized "java/lang/IllegalArgumentException", Cond.methodLink RX3 134 yX0_runHours, Cond.instanceMethod yX0_runHours, Cond.selects RX0 yX0_runHours yX0_runHours, Cond.initialized RX0, Cond.code yX0_runHours cX0_runHours 3 none, Cond.methodLink RX0 80 yX0_runHour, Cond.instanceMethod yX0_runHour, Cond.selects RX0 yX0_runHour yX0_runHour, Cond.code yX0_runHour cX0_runHour 3 none, Cond.fieldLink RX0 41 "ColdCreamery$Cellar" "hour" "I", Cond.fieldLink RX0 83 "ColdCreamery$Cellar" "churnCount" "I", Cond.fieldLink RX0 23 "ColdCreamery$Cellar" "churns" "[LColdCreamery$Churn;", Cond.fieldLink RX0 68 "ColdCreamery$Cellar" "tubCount" "I", Cond.fieldLink RX0 29 "ColdCreamery$Cellar" "tubs" "[LColdCreamery$Tub;", Cond.fieldLink RX0 13 "ColdCreamery$Cellar" "stock" "[I", Cond.methodLink RX0 45 yX0_heatAt, Cond.instanceMethod yX0_heatAt]
def wsX3_pass_r2 : List Cond := [Cond.selects RX0 yX0_heatAt yX0_heatAt, Cond.code yX0_heatAt cX0_heatAt 2 (some .int), Cond.fieldLink RX0 18 "ColdCreamery$Cellar" "heats" "[I", Cond.methodLink RX0 62 yJ9_floorMod_7cf53, Cond.static yJ9_floorMod_7cf53, Cond.initialized RJ9, Cond.code yJ9_floorMod_7cf53 cJ9_floorMod_7cf53 3 (some .int), Cond.methodLink RX0 86 yX1_turn, Cond.instanceMethod yX1_turn, Cond.selects RX1 yX1_turn yX1_turn, Cond.initialized RX1, Cond.code yX1_turn cX1_turn 2 none, Cond.fieldLink RX1 13 "ColdCreamery$Churn" "cream" "I", Cond.fieldLink RX1 16 "ColdCreamery$Churn" "firm" "I", Cond.fieldLink RX1 7 "ColdCreamery$Churn" "cold" "I", Cond.static yX3_firmAfterHour, Cond.code yX3_firmAfterHour cX3_firmAfterHour 2 (some .int), Cond.methodLink RX3 38 Lib.Math.min.name, Cond.static Lib.Math.min.name, Cond.initialized "java/lang/Math", Cond.code Lib.Math.min.name Lib.Math.min.code 2 (some .int), Cond.static yX3_coldAfterHour, Cond.code yX3_coldAfterHour cX3_coldAfterHour 2 (some .int), Cond.methodLink RX3 153 Lib.Math.max.name]
def wsX3_pass_r3 : List Cond := [Cond.static Lib.Math.max.name, Cond.code Lib.Math.max.name Lib.Math.max.code 2 (some .int), Cond.methodLink RX0 90 yX2_standInHeat, Cond.instanceMethod yX2_standInHeat, Cond.selects RX2 yX2_standInHeat yX2_standInHeat, Cond.initialized RX2, Cond.code yX2_standInHeat cX2_standInHeat 3 none, Cond.fieldLink RX2 9 "ColdCreamery$Tub" "scoops" "I", Cond.fieldLink RX2 15 "ColdCreamery$Tub" "soft" "I", Cond.methodLink RX2 21 Lib.Math.min.name, Cond.methodLink RX2 27 Lib.Math.max.name, Cond.methodLink RX0 94 yX0_servePeople, Cond.instanceMethod yX0_servePeople, Cond.selects RX0 yX0_servePeople yX0_servePeople, Cond.code yX0_servePeople cX0_servePeople 5 none, Cond.methodLink RX0 104 yX0_serveOne, Cond.instanceMethod yX0_serveOne, Cond.selects RX0 yX0_serveOne yX0_serveOne, Cond.code yX0_serveOne cX0_serveOne 2 none, Cond.fieldLink RX0 59 "ColdCreamery$Cellar" "sentAway" "I", Cond.fieldLink RX0 49 "ColdCreamery$Cellar" "coins" "I", Cond.methodLink RX0 107 yX0_sellingTub, Cond.instanceMethod yX0_sellingTub, Cond.selects RX0 yX0_sellingTub yX0_sellingTub]
def wsX3_pass_r4 : List Cond := [Cond.code yX0_sellingTub cX0_sellingTub 4 (some .int), Cond.methodLink RX0 110 yX2_sellScoop, Cond.instanceMethod yX2_sellScoop, Cond.selects RX2 yX2_sellScoop yX2_sellScoop, Cond.code yX2_sellScoop cX2_sellScoop 1 (some .int), Cond.fieldLink RX2 18 "ColdCreamery$Tub" "sold" "I", Cond.static yX3_iceAfterHour, Cond.code yX3_iceAfterHour cX3_iceAfterHour 3 (some .int), Cond.methodLink RX0 101 yX2_forgetSoftnessIfEmpty, Cond.instanceMethod yX2_forgetSoftnessIfEmpty, Cond.selects RX2 yX2_forgetSoftnessIfEmpty yX2_forgetSoftnessIfEmpty, Cond.code yX2_forgetSoftnessIfEmpty cX2_forgetSoftnessIfEmpty 1 none]
def wsX3_pass : List Cond := .code yX3_pass cX3_pass 3 (some .int) :: ((wsX3_pass_r1 ++ (wsX3_pass_r2 ++ (wsX3_pass_r3 ++ wsX3_pass_r4))) ++ wsX30 ++ wsX00 ++ wsX10 ++ wsX20 ++ (vx_atS RX3 30 "java/lang/IllegalArgumentException" ["java/lang/RuntimeException", "java/lang/Exception"]).filter goodWord)
def wsX3_done_r1 : List Cond := [Cond.fieldLink RX3 10 "ColdCreamery" "cellar" "LColdCreamery$Cellar;", Cond.methodLink RX3 65 yX3_existingChurn, Cond.instanceMethod yX3_existingChurn, Cond.selects RX3 yX3_existingChurn yX3_existingChurn, Cond.initialized RX3, Cond.code yX3_existingChurn cX3_existingChurn 2 (some (.object "ColdCreamery$Churn")), Cond.classLink RX3 19 "java/lang/IndexOutOfBoundsException", Cond.initialized "java/lang/IndexOutOfBoundsException", Cond.methodLink RX3 137 yX0_hoursUntilFirm, Cond.instanceMethod yX0_hoursUntilFirm, Cond.selects RX0 yX0_hoursUntilFirm yX0_hoursUntilFirm, Cond.initialized RX0, Cond.code yX0_hoursUntilFirm cX0_hoursUntilFirm 5 (some .int), Cond.fieldLink RX0 41 "ColdCreamery$Cellar" "hour" "I", Cond.static yX3_firmAfterHour, Cond.code yX3_firmAfterHour cX3_firmAfterHour 2 (some .int), Cond.methodLink RX3 38 Lib.Math.min.name, Cond.static Lib.Math.min.name, Cond.initialized "java/lang/Math", Cond.code Lib.Math.min.name Lib.Math.min.code 2 (some .int), Cond.methodLink RX0 45 yX0_heatAt, Cond.instanceMethod yX0_heatAt, Cond.selects RX0 yX0_heatAt yX0_heatAt, Cond.code yX0_heatAt cX0_heatAt 2 (some .int)]
def wsX3_done_r2 : List Cond := [Cond.fieldLink RX0 18 "ColdCreamery$Cellar" "heats" "[I", Cond.methodLink RX0 62 yJ9_floorMod_7cf53, Cond.static yJ9_floorMod_7cf53, Cond.initialized RJ9, Cond.code yJ9_floorMod_7cf53 cJ9_floorMod_7cf53 3 (some .int), Cond.static yX3_coldAfterHour, Cond.code yX3_coldAfterHour cX3_coldAfterHour 2 (some .int), Cond.methodLink RX3 153 Lib.Math.max.name, Cond.static Lib.Math.max.name, Cond.code Lib.Math.max.name Lib.Math.max.code 2 (some .int)]
def wsX3_done : List Cond := .code yX3_done cX3_done 2 (some .int) :: ((wsX3_done_r1 ++ wsX3_done_r2) ++ wsX30 ++ wsX00 ++ wsX10 ++ (vx_atS RX3 23 "java/lang/IndexOutOfBoundsException" ["java/lang/RuntimeException", "java/lang/Exception"]).filter goodWord)
def wsX3_foresee_r1 : List Cond := [Cond.classLink RX3 19 "java/lang/IndexOutOfBoundsException", Cond.initialized "java/lang/IndexOutOfBoundsException", Cond.fieldLink RX3 16 "ColdCreamery" "foreseen" "LColdCreamery$Cellar;", Cond.fieldLink RX3 10 "ColdCreamery" "cellar" "LColdCreamery$Cellar;", Cond.methodLink RX3 128 yX3_checkHours, Cond.static yX3_checkHours, Cond.initialized RX3, Cond.code yX3_checkHours cX3_checkHours 1 none, Cond.classLink RX3 26 "java/lang/IllegalArgumentException", Cond.initialized "java/lang/IllegalArgumentException", Cond.methodLink RX3 143 yX0_copyFrom, Cond.instanceMethod yX0_copyFrom, Cond.selects RX0 yX0_copyFrom yX0_copyFrom, Cond.initialized RX0, Cond.code yX0_copyFrom cX0_copyFrom 3 none, Cond.fieldLink RX0 13 "ColdCreamery$Cellar" "stock" "[I", Cond.methodLink RX0 128 arraycopyName, Cond.native arraycopyName, Cond.static arraycopyName, Cond.initialized "java/lang/System", Cond.fieldLink RX0 18 "ColdCreamery$Cellar" "heats" "[I", Cond.fieldLink RX0 23 "ColdCreamery$Cellar" "churns" "[LColdCreamery$Churn;", Cond.fieldLink RX0 29 "ColdCreamery$Cellar" "tubs" "[LColdCreamery$Tub;", Cond.fieldLink RX0 83 "ColdCreamery$Cellar" "churnCount" "I"]
def wsX3_foresee_r2 : List Cond := [Cond.fieldLink RX0 68 "ColdCreamery$Cellar" "tubCount" "I", Cond.fieldLink RX0 41 "ColdCreamery$Cellar" "hour" "I", Cond.fieldLink RX0 49 "ColdCreamery$Cellar" "coins" "I", Cond.fieldLink RX0 59 "ColdCreamery$Cellar" "sentAway" "I", Cond.methodLink RX0 134 yX1_copyFrom, Cond.instanceMethod yX1_copyFrom, Cond.selects RX1 yX1_copyFrom yX1_copyFrom, Cond.initialized RX1, Cond.code yX1_copyFrom cX1_copyFrom 2 none, Cond.fieldLink RX1 7 "ColdCreamery$Churn" "cold" "I", Cond.fieldLink RX1 13 "ColdCreamery$Churn" "cream" "I", Cond.fieldLink RX1 16 "ColdCreamery$Churn" "firm" "I", Cond.methodLink RX0 138 yX2_copyFrom, Cond.instanceMethod yX2_copyFrom, Cond.selects RX2 yX2_copyFrom yX2_copyFrom, Cond.initialized RX2, Cond.code yX2_copyFrom cX2_copyFrom 2 none, Cond.fieldLink RX2 9 "ColdCreamery$Tub" "scoops" "I", Cond.fieldLink RX2 15 "ColdCreamery$Tub" "soft" "I", Cond.fieldLink RX2 18 "ColdCreamery$Tub" "sold" "I", Cond.methodLink RX3 134 yX0_runHours, Cond.instanceMethod yX0_runHours, Cond.selects RX0 yX0_runHours yX0_runHours, Cond.code yX0_runHours cX0_runHours 3 none]
def wsX3_foresee_r3 : List Cond := [Cond.methodLink RX0 80 yX0_runHour, Cond.instanceMethod yX0_runHour, Cond.selects RX0 yX0_runHour yX0_runHour, Cond.code yX0_runHour cX0_runHour 3 none, Cond.methodLink RX0 45 yX0_heatAt, Cond.instanceMethod yX0_heatAt, Cond.selects RX0 yX0_heatAt yX0_heatAt, Cond.code yX0_heatAt cX0_heatAt 2 (some .int), Cond.methodLink RX0 62 yJ9_floorMod_7cf53, Cond.static yJ9_floorMod_7cf53, Cond.initialized RJ9, Cond.code yJ9_floorMod_7cf53 cJ9_floorMod_7cf53 3 (some .int), Cond.methodLink RX0 86 yX1_turn, Cond.instanceMethod yX1_turn, Cond.selects RX1 yX1_turn yX1_turn, Cond.code yX1_turn cX1_turn 2 none, Cond.static yX3_firmAfterHour, Cond.code yX3_firmAfterHour cX3_firmAfterHour 2 (some .int), Cond.methodLink RX3 38 Lib.Math.min.name, Cond.static Lib.Math.min.name, Cond.initialized "java/lang/Math", Cond.code Lib.Math.min.name Lib.Math.min.code 2 (some .int), Cond.static yX3_coldAfterHour, Cond.code yX3_coldAfterHour cX3_coldAfterHour 2 (some .int)]
def wsX3_foresee_r4 : List Cond := [Cond.methodLink RX3 153 Lib.Math.max.name, Cond.static Lib.Math.max.name, Cond.code Lib.Math.max.name Lib.Math.max.code 2 (some .int), Cond.methodLink RX0 90 yX2_standInHeat, Cond.instanceMethod yX2_standInHeat, Cond.selects RX2 yX2_standInHeat yX2_standInHeat, Cond.code yX2_standInHeat cX2_standInHeat 3 none, Cond.methodLink RX2 21 Lib.Math.min.name, Cond.methodLink RX2 27 Lib.Math.max.name, Cond.methodLink RX0 94 yX0_servePeople, Cond.instanceMethod yX0_servePeople, Cond.selects RX0 yX0_servePeople yX0_servePeople, Cond.code yX0_servePeople cX0_servePeople 5 none, Cond.methodLink RX0 104 yX0_serveOne, Cond.instanceMethod yX0_serveOne, Cond.selects RX0 yX0_serveOne yX0_serveOne, Cond.code yX0_serveOne cX0_serveOne 2 none, Cond.methodLink RX0 107 yX0_sellingTub, Cond.instanceMethod yX0_sellingTub, Cond.selects RX0 yX0_sellingTub yX0_sellingTub, Cond.code yX0_sellingTub cX0_sellingTub 4 (some .int), Cond.methodLink RX0 110 yX2_sellScoop, Cond.instanceMethod yX2_sellScoop, Cond.selects RX2 yX2_sellScoop yX2_sellScoop]
def wsX3_foresee_r5 : List Cond := [Cond.code yX2_sellScoop cX2_sellScoop 1 (some .int), Cond.static yX3_iceAfterHour, Cond.code yX3_iceAfterHour cX3_iceAfterHour 3 (some .int), Cond.methodLink RX0 101 yX2_forgetSoftnessIfEmpty, Cond.instanceMethod yX2_forgetSoftnessIfEmpty, Cond.selects RX2 yX2_forgetSoftnessIfEmpty yX2_forgetSoftnessIfEmpty, Cond.code yX2_forgetSoftnessIfEmpty cX2_forgetSoftnessIfEmpty 1 none, Cond.methodLink RX3 123 yX0_number, Cond.instanceMethod yX0_number, Cond.selects RX0 yX0_number yX0_number, Cond.code yX0_number cX0_number 2 (some .int), Cond.methodLink RX0 52 yX0_scoopsInTubs, Cond.instanceMethod yX0_scoopsInTubs, Cond.selects RX0 yX0_scoopsInTubs yX0_scoopsInTubs, Cond.code yX0_scoopsInTubs cX0_scoopsInTubs 3 (some .int), Cond.methodLink RX0 56 yX0_soldScoops, Cond.instanceMethod yX0_soldScoops, Cond.selects RX0 yX0_soldScoops yX0_soldScoops, Cond.code yX0_soldScoops cX0_soldScoops 3 (some .int)]
def wsX3_foresee : List Cond := .code yX3_foresee cX3_foresee 3 (some .int) :: ((wsX3_foresee_r1 ++ (wsX3_foresee_r2 ++ (wsX3_foresee_r3 ++ (wsX3_foresee_r4 ++ wsX3_foresee_r5)))) ++ wsX30 ++ wsX00 ++ wsX10 ++ wsX20 ++ (vx_atS RX3 23 "java/lang/IndexOutOfBoundsException" ["java/lang/RuntimeException", "java/lang/Exception"]).filter goodWord ++ (vx_atS RX3 30 "java/lang/IllegalArgumentException" ["java/lang/RuntimeException", "java/lang/Exception"]).filter goodWord)
def wsX3_lasts : List Cond := .code yX3_lasts cX3_lasts 1 (some .int) :: ([.fieldLink RX3 10 "ColdCreamery" "cellar" "LColdCreamery$Cellar;", .methodLink RX3 147 yX0_hoursUntilNoIce, .instanceMethod yX0_hoursUntilNoIce, .selects RX0 yX0_hoursUntilNoIce yX0_hoursUntilNoIce, .initialized RX0, .code yX0_hoursUntilNoIce cX0_hoursUntilNoIce 3 (some .int), .fieldLink RX0 13 "ColdCreamery$Cellar" "stock" "[I", .fieldLink RX0 41 "ColdCreamery$Cellar" "hour" "I", .methodLink RX0 45 yX0_heatAt, .instanceMethod yX0_heatAt, .selects RX0 yX0_heatAt yX0_heatAt, .code yX0_heatAt cX0_heatAt 2 (some .int), .fieldLink RX0 18 "ColdCreamery$Cellar" "heats" "[I", .methodLink RX0 62 yJ9_floorMod_7cf53, .static yJ9_floorMod_7cf53, .initialized RJ9, .code yJ9_floorMod_7cf53 cJ9_floorMod_7cf53 3 (some .int), .static yX3_iceAfterHour, .initialized RX3, .code yX3_iceAfterHour cX3_iceAfterHour 3 (some .int), .methodLink RX3 153 Lib.Math.max.name, .static Lib.Math.max.name, .initialized "java/lang/Math", .code Lib.Math.max.name Lib.Math.max.code 2 (some .int)] ++ wsX30 ++ wsX00)
def wsX3_salt : List Cond := .code yX3_salt cX3_salt 6 (some .int) :: ([.methodLink RX3 153 Lib.Math.max.name, .static Lib.Math.max.name, .initialized "java/lang/Math", .code Lib.Math.max.name Lib.Math.max.code 2 (some .int), .methodLink RX3 38 Lib.Math.min.name, .static Lib.Math.min.name, .code Lib.Math.min.name Lib.Math.min.code 2 (some .int), .methodLink RX3 65 yX3_existingChurn, .instanceMethod yX3_existingChurn, .selects RX3 yX3_existingChurn yX3_existingChurn, .initialized RX3, .code yX3_existingChurn cX3_existingChurn 2 (some (.object "ColdCreamery$Churn")), .classLink RX3 19 "java/lang/IndexOutOfBoundsException", .initialized "java/lang/IndexOutOfBoundsException", .fieldLink RX3 10 "ColdCreamery" "cellar" "LColdCreamery$Cellar;", .methodLink RX3 69 yX3_checkPacked, .static yX3_checkPacked, .code yX3_checkPacked cX3_checkPacked 1 none, .classLink RX3 26 "java/lang/IllegalArgumentException", .initialized "java/lang/IllegalArgumentException", .methodLink RX3 150 yX3_coldOfIce, .static yX3_coldOfIce, .code yX3_coldOfIce cX3_coldOfIce 1 (some .int)] ++ wsX10 ++ wsX30 ++ wsX00 ++ (vx_atS RX3 23 "java/lang/IndexOutOfBoundsException" ["java/lang/RuntimeException", "java/lang/Exception"]).filter goodWord ++ (vx_atS RX3 30 "java/lang/IllegalArgumentException" ["java/lang/RuntimeException", "java/lang/Exception"]).filter goodWord)
def wsX3_share : List Cond := .code yX3_share cX3_share 3 (some .double) :: ([.fieldLink RX3 10 "ColdCreamery" "cellar" "LColdCreamery$Cellar;", .methodLink RX3 156 yX0_soldScoops, .instanceMethod yX0_soldScoops, .selects RX0 yX0_soldScoops yX0_soldScoops, .initialized RX0, .code yX0_soldScoops cX0_soldScoops 3 (some .int), .fieldLink RX0 68 "ColdCreamery$Cellar" "tubCount" "I", .fieldLink RX0 29 "ColdCreamery$Cellar" "tubs" "[LColdCreamery$Tub;"] ++ wsX30 ++ wsX00 ++ wsX20)
def wsX3_mixed : List Cond := .code yX3_mixed cX3_mixed 4 (some .long) :: ([.constantLong RX3 184 (31)])
def wsX3_digest_r1 : List Cond := [Cond.constantLong RX3 162 (1103), Cond.fieldLink RX3 10 "ColdCreamery" "cellar" "LColdCreamery$Cellar;", Cond.methodLink RX3 123 yX0_number, Cond.instanceMethod yX0_number, Cond.selects RX0 yX0_number yX0_number, Cond.initialized RX0, Cond.code yX0_number cX0_number 2 (some .int), Cond.fieldLink RX0 41 "ColdCreamery$Cellar" "hour" "I", Cond.fieldLink RX0 13 "ColdCreamery$Cellar" "stock" "[I", Cond.fieldLink RX0 49 "ColdCreamery$Cellar" "coins" "I", Cond.fieldLink RX0 59 "ColdCreamery$Cellar" "sentAway" "I", Cond.methodLink RX0 45 yX0_heatAt, Cond.instanceMethod yX0_heatAt, Cond.selects RX0 yX0_heatAt yX0_heatAt, Cond.code yX0_heatAt cX0_heatAt 2 (some .int), Cond.fieldLink RX0 18 "ColdCreamery$Cellar" "heats" "[I", Cond.methodLink RX0 62 yJ9_floorMod_7cf53, Cond.static yJ9_floorMod_7cf53, Cond.initialized RJ9, Cond.code yJ9_floorMod_7cf53 cJ9_floorMod_7cf53 3 (some .int), Cond.methodLink RX0 52 yX0_scoopsInTubs, Cond.instanceMethod yX0_scoopsInTubs, Cond.selects RX0 yX0_scoopsInTubs yX0_scoopsInTubs, Cond.code yX0_scoopsInTubs cX0_scoopsInTubs 3 (some .int)]
def wsX3_digest_r2 : List Cond := [Cond.fieldLink RX0 68 "ColdCreamery$Cellar" "tubCount" "I", Cond.fieldLink RX0 29 "ColdCreamery$Cellar" "tubs" "[LColdCreamery$Tub;", Cond.methodLink RX0 56 yX0_soldScoops, Cond.instanceMethod yX0_soldScoops, Cond.selects RX0 yX0_soldScoops yX0_soldScoops, Cond.code yX0_soldScoops cX0_soldScoops 3 (some .int), Cond.methodLink RX3 164 yX3_mixed, Cond.static yX3_mixed, Cond.initialized RX3, Cond.code yX3_mixed cX3_mixed 4 (some .long), Cond.constantLong RX3 184 (31), Cond.methodLink RX3 116 yX1_number, Cond.instanceMethod yX1_number, Cond.selects RX1 yX1_number yX1_number, Cond.initialized RX1, Cond.code yX1_number cX1_number 2 (some .int), Cond.fieldLink RX1 7 "ColdCreamery$Churn" "cold" "I", Cond.fieldLink RX1 13 "ColdCreamery$Churn" "cream" "I", Cond.fieldLink RX1 16 "ColdCreamery$Churn" "firm" "I", Cond.methodLink RX3 120 yX2_number, Cond.instanceMethod yX2_number, Cond.selects RX2 yX2_number yX2_number, Cond.initialized RX2, Cond.code yX2_number cX2_number 2 (some .int)]
def wsX3_digest_r3 : List Cond := [Cond.fieldLink RX2 9 "ColdCreamery$Tub" "scoops" "I", Cond.fieldLink RX2 15 "ColdCreamery$Tub" "soft" "I", Cond.fieldLink RX2 18 "ColdCreamery$Tub" "sold" "I"]
def wsX3_digest : List Cond := .code yX3_digest cX3_digest 5 (some .long) :: ((wsX3_digest_r1 ++ (wsX3_digest_r2 ++ wsX3_digest_r3)) ++ wsX30 ++ wsX00 ++ wsX20 ++ wsX10)
def wsX4_init : List Cond := .code yX4_init cX4_init 1 none :: ([.methodLink RX4 3 objectInit, .instanceMethod objectInit, .code objectInit ⟨#[0xb1]⟩ 1 none, .arrayClass .int, .fieldLink RX4 9 "ColdCreameryModel" "s" "[I", .fieldLink RX4 13 "ColdCreameryModel" "kept" "[I", .fieldLink RX4 16 "ColdCreameryModel" "heat" "[I"] ++ wsX40)
def wsX4_thrown : List Cond := .code yX4_thrown cX4_thrown 1 (some .int) :: ([.fieldLink RX4 19 "ColdCreameryModel" "thrown" "I"] ++ wsX40)
def wsX4_no : List Cond := .code yX4_no cX4_no 2 (some .int) :: ([.fieldLink RX4 19 "ColdCreameryModel" "thrown" "I"] ++ wsX40)
def wsX4_isIn : List Cond := .code yX4_isIn cX4_isIn 3 (some .boolean) :: ([])
def wsX4_isChurn : List Cond := .code yX4_isChurn cX4_isChurn 2 (some .boolean) :: ([.fieldLink RX4 23 "ColdCreameryModel" "churns" "I", .methodLink RX4 26 yX4_isIn, .static yX4_isIn, .initialized RX4, .code yX4_isIn cX4_isIn 3 (some .boolean)] ++ wsX40)
def wsX4_isTub : List Cond := .code yX4_isTub cX4_isTub 2 (some .boolean) :: ([.fieldLink RX4 30 "ColdCreameryModel" "tubs" "I", .methodLink RX4 26 yX4_isIn, .static yX4_isIn, .initialized RX4, .code yX4_isIn cX4_isIn 3 (some .boolean)] ++ wsX40)
def wsX4_ch : List Cond := .code yX4_ch cX4_ch 3 (some .int) :: ([.fieldLink RX4 9 "ColdCreameryModel" "s" "[I"] ++ wsX40)
def wsX4_tu : List Cond := .code yX4_tu cX4_tu 3 (some .int) :: ([.fieldLink RX4 9 "ColdCreameryModel" "s" "[I"] ++ wsX40)
def wsX4_setChurn : List Cond := .code yX4_setChurn cX4_setChurn 4 none :: ([.fieldLink RX4 9 "ColdCreameryModel" "s" "[I"] ++ wsX40)
def wsX4_setTub : List Cond := .code yX4_setTub cX4_setTub 4 none :: ([.fieldLink RX4 9 "ColdCreameryModel" "s" "[I"] ++ wsX40)
def wsX4_bring : List Cond := .code yX4_bring cX4_bring 3 (some .int) :: ([.fieldLink RX4 19 "ColdCreameryModel" "thrown" "I", .fieldLink RX4 9 "ColdCreameryModel" "s" "[I", .fieldLink RX4 37 "ColdCreameryModel" "MOST" "[I", .methodLink RX4 40 Lib.Math.min.name, .static Lib.Math.min.name, .initialized "java/lang/Math", .code Lib.Math.min.name Lib.Math.min.code 2 (some .int), .methodLink RX4 26 yX4_isIn, .static yX4_isIn, .initialized RX4, .code yX4_isIn cX4_isIn 3 (some .boolean), .methodLink RX4 33 yX4_no, .instanceMethod yX4_no, .selects RX4 yX4_no yX4_no, .code yX4_no cX4_no 2 (some .int)] ++ wsX40)
def wsX4_setHeat : List Cond := .code yX4_setHeat cX4_setHeat 4 (some .int) :: ([.fieldLink RX4 19 "ColdCreameryModel" "thrown" "I", .fieldLink RX4 16 "ColdCreameryModel" "heat" "[I", .methodLink RX4 26 yX4_isIn, .static yX4_isIn, .initialized RX4, .code yX4_isIn cX4_isIn 3 (some .boolean), .methodLink RX4 33 yX4_no, .instanceMethod yX4_no, .selects RX4 yX4_no yX4_no, .code yX4_no cX4_no 2 (some .int)] ++ wsX40)
def wsX4_heatNow : List Cond := .code yX4_heatNow cX4_heatNow 1 (some .int) :: ([.fieldLink RX4 16 "ColdCreameryModel" "heat" "[I", .fieldLink RX4 9 "ColdCreameryModel" "s" "[I"] ++ wsX40)
def wsX4_churn : List Cond := .code yX4_churn cX4_churn 1 (some .int) :: ([.fieldLink RX4 19 "ColdCreameryModel" "thrown" "I", .fieldLink RX4 23 "ColdCreameryModel" "churns" "I", .methodLink RX4 33 yX4_no, .instanceMethod yX4_no, .selects RX4 yX4_no yX4_no, .initialized RX4, .code yX4_no cX4_no 2 (some .int)] ++ wsX40)
def wsX4_tub : List Cond := .code yX4_tub cX4_tub 1 (some .int) :: ([.fieldLink RX4 19 "ColdCreameryModel" "thrown" "I", .fieldLink RX4 30 "ColdCreameryModel" "tubs" "I", .methodLink RX4 33 yX4_no, .instanceMethod yX4_no, .selects RX4 yX4_no yX4_no, .initialized RX4, .code yX4_no cX4_no 2 (some .int)] ++ wsX40)
def wsX4_packed : List Cond := .code yX4_packed cX4_packed 4 (some .int) :: ([.methodLink RX4 40 Lib.Math.min.name, .static Lib.Math.min.name, .initialized "java/lang/Math", .code Lib.Math.min.name Lib.Math.min.code 2 (some .int), .methodLink RX4 46 yX4_ch, .instanceMethod yX4_ch, .selects RX4 yX4_ch yX4_ch, .initialized RX4, .code yX4_ch cX4_ch 3 (some .int), .fieldLink RX4 9 "ColdCreameryModel" "s" "[I"] ++ wsX40)
def wsX4_pack_r1 : List Cond := [Cond.fieldLink RX4 19 "ColdCreameryModel" "thrown" "I", Cond.fieldLink RX4 9 "ColdCreameryModel" "s" "[I", Cond.methodLink RX4 49 yX4_isChurn, Cond.instanceMethod yX4_isChurn, Cond.selects RX4 yX4_isChurn yX4_isChurn, Cond.initialized RX4, Cond.code yX4_isChurn cX4_isChurn 2 (some .boolean), Cond.fieldLink RX4 23 "ColdCreameryModel" "churns" "I", Cond.methodLink RX4 26 yX4_isIn, Cond.static yX4_isIn, Cond.code yX4_isIn cX4_isIn 3 (some .boolean), Cond.methodLink RX4 33 yX4_no, Cond.instanceMethod yX4_no, Cond.selects RX4 yX4_no yX4_no, Cond.code yX4_no cX4_no 2 (some .int), Cond.methodLink RX4 53 yX4_packed, Cond.instanceMethod yX4_packed, Cond.selects RX4 yX4_packed yX4_packed, Cond.code yX4_packed cX4_packed 4 (some .int), Cond.methodLink RX4 40 Lib.Math.min.name, Cond.static Lib.Math.min.name, Cond.initialized "java/lang/Math", Cond.code Lib.Math.min.name Lib.Math.min.code 2 (some .int), Cond.methodLink RX4 46 yX4_ch]
def wsX4_pack_r2 : List Cond := [Cond.instanceMethod yX4_ch, Cond.selects RX4 yX4_ch yX4_ch, Cond.code yX4_ch cX4_ch 3 (some .int), Cond.methodLink RX4 57 yX4_setChurn, Cond.instanceMethod yX4_setChurn, Cond.selects RX4 yX4_setChurn yX4_setChurn, Cond.code yX4_setChurn cX4_setChurn 4 none]
def wsX4_pack : List Cond := .code yX4_pack cX4_pack 4 (some .int) :: ((wsX4_pack_r1 ++ wsX4_pack_r2) ++ wsX40)
def wsX4_pour : List Cond := .code yX4_pour cX4_pour 4 (some .int) :: ([.fieldLink RX4 19 "ColdCreameryModel" "thrown" "I", .fieldLink RX4 9 "ColdCreameryModel" "s" "[I", .methodLink RX4 49 yX4_isChurn, .instanceMethod yX4_isChurn, .selects RX4 yX4_isChurn yX4_isChurn, .initialized RX4, .code yX4_isChurn cX4_isChurn 2 (some .boolean), .fieldLink RX4 23 "ColdCreameryModel" "churns" "I", .methodLink RX4 26 yX4_isIn, .static yX4_isIn, .code yX4_isIn cX4_isIn 3 (some .boolean), .methodLink RX4 33 yX4_no, .instanceMethod yX4_no, .selects RX4 yX4_no yX4_no, .code yX4_no cX4_no 2 (some .int), .methodLink RX4 46 yX4_ch, .instanceMethod yX4_ch, .selects RX4 yX4_ch yX4_ch, .code yX4_ch cX4_ch 3 (some .int), .methodLink RX4 57 yX4_setChurn, .instanceMethod yX4_setChurn, .selects RX4 yX4_setChurn yX4_setChurn, .code yX4_setChurn cX4_setChurn 4 none] ++ wsX40)
def wsX4_scoop_r1 : List Cond := [Cond.fieldLink RX4 19 "ColdCreameryModel" "thrown" "I", Cond.methodLink RX4 40 Lib.Math.min.name, Cond.static Lib.Math.min.name, Cond.initialized "java/lang/Math", Cond.code Lib.Math.min.name Lib.Math.min.code 2 (some .int), Cond.methodLink RX4 70 Lib.Math.max.name, Cond.static Lib.Math.max.name, Cond.code Lib.Math.max.name Lib.Math.max.code 2 (some .int), Cond.methodLink RX4 49 yX4_isChurn, Cond.instanceMethod yX4_isChurn, Cond.selects RX4 yX4_isChurn yX4_isChurn, Cond.initialized RX4, Cond.code yX4_isChurn cX4_isChurn 2 (some .boolean), Cond.fieldLink RX4 23 "ColdCreameryModel" "churns" "I", Cond.methodLink RX4 26 yX4_isIn, Cond.static yX4_isIn, Cond.code yX4_isIn cX4_isIn 3 (some .boolean), Cond.methodLink RX4 61 yX4_isTub, Cond.instanceMethod yX4_isTub, Cond.selects RX4 yX4_isTub yX4_isTub, Cond.code yX4_isTub cX4_isTub 2 (some .boolean), Cond.fieldLink RX4 30 "ColdCreameryModel" "tubs" "I", Cond.methodLink RX4 33 yX4_no, Cond.instanceMethod yX4_no]
def wsX4_scoop_r2 : List Cond := [Cond.selects RX4 yX4_no yX4_no, Cond.code yX4_no cX4_no 2 (some .int), Cond.methodLink RX4 46 yX4_ch, Cond.instanceMethod yX4_ch, Cond.selects RX4 yX4_ch yX4_ch, Cond.code yX4_ch cX4_ch 3 (some .int), Cond.fieldLink RX4 9 "ColdCreameryModel" "s" "[I", Cond.methodLink RX4 64 yX4_tu, Cond.instanceMethod yX4_tu, Cond.selects RX4 yX4_tu yX4_tu, Cond.code yX4_tu cX4_tu 3 (some .int), Cond.methodLink RX4 67 yX4_setTub, Cond.instanceMethod yX4_setTub, Cond.selects RX4 yX4_setTub yX4_setTub, Cond.code yX4_setTub cX4_setTub 4 none, Cond.methodLink RX4 57 yX4_setChurn, Cond.instanceMethod yX4_setChurn, Cond.selects RX4 yX4_setChurn yX4_setChurn, Cond.code yX4_setChurn cX4_setChurn 4 none]
def wsX4_scoop : List Cond := .code yX4_scoop cX4_scoop 3 (some .int) :: ((wsX4_scoop_r1 ++ wsX4_scoop_r2) ++ wsX40)
def wsX4_told : List Cond := .code yX4_told cX4_told 3 (some .int) :: ([.fieldLink RX4 19 "ColdCreameryModel" "thrown" "I", .methodLink RX4 49 yX4_isChurn, .instanceMethod yX4_isChurn, .selects RX4 yX4_isChurn yX4_isChurn, .initialized RX4, .code yX4_isChurn cX4_isChurn 2 (some .boolean), .fieldLink RX4 23 "ColdCreameryModel" "churns" "I", .methodLink RX4 26 yX4_isIn, .static yX4_isIn, .code yX4_isIn cX4_isIn 3 (some .boolean), .methodLink RX4 46 yX4_ch, .instanceMethod yX4_ch, .selects RX4 yX4_ch yX4_ch, .code yX4_ch cX4_ch 3 (some .int), .fieldLink RX4 9 "ColdCreameryModel" "s" "[I", .methodLink RX4 33 yX4_no, .instanceMethod yX4_no, .selects RX4 yX4_no yX4_no, .code yX4_no cX4_no 2 (some .int)] ++ wsX40)
def wsX4_about : List Cond := .code yX4_about cX4_about 3 (some .int) :: ([.fieldLink RX4 19 "ColdCreameryModel" "thrown" "I", .methodLink RX4 61 yX4_isTub, .instanceMethod yX4_isTub, .selects RX4 yX4_isTub yX4_isTub, .initialized RX4, .code yX4_isTub cX4_isTub 2 (some .boolean), .fieldLink RX4 30 "ColdCreameryModel" "tubs" "I", .methodLink RX4 26 yX4_isIn, .static yX4_isIn, .code yX4_isIn cX4_isIn 3 (some .boolean), .methodLink RX4 64 yX4_tu, .instanceMethod yX4_tu, .selects RX4 yX4_tu yX4_tu, .code yX4_tu cX4_tu 3 (some .int), .fieldLink RX4 9 "ColdCreameryModel" "s" "[I", .methodLink RX4 33 yX4_no, .instanceMethod yX4_no, .selects RX4 yX4_no yX4_no, .code yX4_no cX4_no 2 (some .int)] ++ wsX40)
def wsX4_sum : List Cond := .code yX4_sum cX4_sum 4 (some .int) :: ([.fieldLink RX4 30 "ColdCreameryModel" "tubs" "I", .methodLink RX4 64 yX4_tu, .instanceMethod yX4_tu, .selects RX4 yX4_tu yX4_tu, .initialized RX4, .code yX4_tu cX4_tu 3 (some .int), .fieldLink RX4 9 "ColdCreameryModel" "s" "[I"] ++ wsX40)
def wsX4_counted : List Cond := .code yX4_counted cX4_counted 3 (some .int) :: ([.arrayClass .int, .fieldLink RX4 9 "ColdCreameryModel" "s" "[I", .methodLink RX4 73 yX4_heatNow, .instanceMethod yX4_heatNow, .selects RX4 yX4_heatNow yX4_heatNow, .initialized RX4, .code yX4_heatNow cX4_heatNow 1 (some .int), .fieldLink RX4 16 "ColdCreameryModel" "heat" "[I", .methodLink RX4 77 yX4_sum, .instanceMethod yX4_sum, .selects RX4 yX4_sum yX4_sum, .code yX4_sum cX4_sum 4 (some .int), .fieldLink RX4 30 "ColdCreameryModel" "tubs" "I", .methodLink RX4 64 yX4_tu, .instanceMethod yX4_tu, .selects RX4 yX4_tu yX4_tu, .code yX4_tu cX4_tu 3 (some .int)] ++ wsX40)
def wsX4_count_r1 : List Cond := [Cond.fieldLink RX4 19 "ColdCreameryModel" "thrown" "I", Cond.methodLink RX4 26 yX4_isIn, Cond.static yX4_isIn, Cond.initialized RX4, Cond.code yX4_isIn cX4_isIn 3 (some .boolean), Cond.methodLink RX4 80 yX4_counted, Cond.instanceMethod yX4_counted, Cond.selects RX4 yX4_counted yX4_counted, Cond.code yX4_counted cX4_counted 3 (some .int), Cond.arrayClass .int, Cond.fieldLink RX4 9 "ColdCreameryModel" "s" "[I", Cond.methodLink RX4 73 yX4_heatNow, Cond.instanceMethod yX4_heatNow, Cond.selects RX4 yX4_heatNow yX4_heatNow, Cond.code yX4_heatNow cX4_heatNow 1 (some .int), Cond.fieldLink RX4 16 "ColdCreameryModel" "heat" "[I", Cond.methodLink RX4 77 yX4_sum, Cond.instanceMethod yX4_sum, Cond.selects RX4 yX4_sum yX4_sum, Cond.code yX4_sum cX4_sum 4 (some .int), Cond.fieldLink RX4 30 "ColdCreameryModel" "tubs" "I", Cond.methodLink RX4 64 yX4_tu, Cond.instanceMethod yX4_tu, Cond.selects RX4 yX4_tu yX4_tu]
def wsX4_count_r2 : List Cond := [Cond.code yX4_tu cX4_tu 3 (some .int), Cond.methodLink RX4 33 yX4_no, Cond.instanceMethod yX4_no, Cond.selects RX4 yX4_no yX4_no, Cond.code yX4_no cX4_no 2 (some .int)]
def wsX4_count : List Cond := .code yX4_count cX4_count 2 (some .int) :: ((wsX4_count_r1 ++ wsX4_count_r2) ++ wsX40)
def wsX4_nextTub : List Cond := .code yX4_nextTub cX4_nextTub 3 (some .int) :: ([.fieldLink RX4 30 "ColdCreameryModel" "tubs" "I", .methodLink RX4 64 yX4_tu, .instanceMethod yX4_tu, .selects RX4 yX4_tu yX4_tu, .initialized RX4, .code yX4_tu cX4_tu 3 (some .int), .fieldLink RX4 9 "ColdCreameryModel" "s" "[I"] ++ wsX40)
def wsX4_next : List Cond := .code yX4_next cX4_next 1 (some .int) :: ([.fieldLink RX4 19 "ColdCreameryModel" "thrown" "I", .methodLink RX4 83 yX4_nextTub, .instanceMethod yX4_nextTub, .selects RX4 yX4_nextTub yX4_nextTub, .initialized RX4, .code yX4_nextTub cX4_nextTub 3 (some .int), .fieldLink RX4 30 "ColdCreameryModel" "tubs" "I", .methodLink RX4 64 yX4_tu, .instanceMethod yX4_tu, .selects RX4 yX4_tu yX4_tu, .code yX4_tu cX4_tu 3 (some .int), .fieldLink RX4 9 "ColdCreameryModel" "s" "[I"] ++ wsX40)
def wsX4_firmUp : List Cond := .code yX4_firmUp cX4_firmUp 3 none :: ([.methodLink RX4 40 Lib.Math.min.name, .static Lib.Math.min.name, .initialized "java/lang/Math", .code Lib.Math.min.name Lib.Math.min.code 2 (some .int), .methodLink RX4 70 Lib.Math.max.name, .static Lib.Math.max.name, .code Lib.Math.max.name Lib.Math.max.code 2 (some .int), .methodLink RX4 46 yX4_ch, .instanceMethod yX4_ch, .selects RX4 yX4_ch yX4_ch, .initialized RX4, .code yX4_ch cX4_ch 3 (some .int), .fieldLink RX4 9 "ColdCreameryModel" "s" "[I", .methodLink RX4 57 yX4_setChurn, .instanceMethod yX4_setChurn, .selects RX4 yX4_setChurn yX4_setChurn, .code yX4_setChurn cX4_setChurn 4 none] ++ wsX40)
def wsX4_soften : List Cond := .code yX4_soften cX4_soften 4 none :: ([.fieldLink RX4 9 "ColdCreameryModel" "s" "[I", .methodLink RX4 40 Lib.Math.min.name, .static Lib.Math.min.name, .initialized "java/lang/Math", .code Lib.Math.min.name Lib.Math.min.code 2 (some .int), .methodLink RX4 70 Lib.Math.max.name, .static Lib.Math.max.name, .code Lib.Math.max.name Lib.Math.max.code 2 (some .int), .methodLink RX4 64 yX4_tu, .instanceMethod yX4_tu, .selects RX4 yX4_tu yX4_tu, .initialized RX4, .code yX4_tu cX4_tu 3 (some .int), .methodLink RX4 67 yX4_setTub, .instanceMethod yX4_setTub, .selects RX4 yX4_setTub yX4_setTub, .code yX4_setTub cX4_setTub 4 none] ++ wsX40)
def wsX4_sell : List Cond := .code yX4_sell cX4_sell 2 none :: ([.fieldLink RX4 9 "ColdCreameryModel" "s" "[I", .methodLink RX4 83 yX4_nextTub, .instanceMethod yX4_nextTub, .selects RX4 yX4_nextTub yX4_nextTub, .initialized RX4, .code yX4_nextTub cX4_nextTub 3 (some .int), .fieldLink RX4 30 "ColdCreameryModel" "tubs" "I", .methodLink RX4 64 yX4_tu, .instanceMethod yX4_tu, .selects RX4 yX4_tu yX4_tu, .code yX4_tu cX4_tu 3 (some .int), .methodLink RX4 67 yX4_setTub, .instanceMethod yX4_setTub, .selects RX4 yX4_setTub yX4_setTub, .code yX4_setTub cX4_setTub 4 none] ++ wsX40)
def wsX4_hourOn_r1 : List Cond := [Cond.fieldLink RX4 23 "ColdCreameryModel" "churns" "I", Cond.fieldLink RX4 30 "ColdCreameryModel" "tubs" "I", Cond.fieldLink RX4 9 "ColdCreameryModel" "s" "[I", Cond.methodLink RX4 70 Lib.Math.max.name, Cond.static Lib.Math.max.name, Cond.initialized "java/lang/Math", Cond.code Lib.Math.max.name Lib.Math.max.code 2 (some .int), Cond.methodLink RX4 73 yX4_heatNow, Cond.instanceMethod yX4_heatNow, Cond.selects RX4 yX4_heatNow yX4_heatNow, Cond.initialized RX4, Cond.code yX4_heatNow cX4_heatNow 1 (some .int), Cond.fieldLink RX4 16 "ColdCreameryModel" "heat" "[I", Cond.methodLink RX4 86 yX4_firmUp, Cond.instanceMethod yX4_firmUp, Cond.selects RX4 yX4_firmUp yX4_firmUp, Cond.code yX4_firmUp cX4_firmUp 3 none, Cond.methodLink RX4 40 Lib.Math.min.name, Cond.static Lib.Math.min.name, Cond.code Lib.Math.min.name Lib.Math.min.code 2 (some .int), Cond.methodLink RX4 46 yX4_ch, Cond.instanceMethod yX4_ch, Cond.selects RX4 yX4_ch yX4_ch, Cond.code yX4_ch cX4_ch 3 (some .int)]
def wsX4_hourOn_r2 : List Cond := [Cond.methodLink RX4 57 yX4_setChurn, Cond.instanceMethod yX4_setChurn, Cond.selects RX4 yX4_setChurn yX4_setChurn, Cond.code yX4_setChurn cX4_setChurn 4 none, Cond.methodLink RX4 90 yX4_soften, Cond.instanceMethod yX4_soften, Cond.selects RX4 yX4_soften yX4_soften, Cond.code yX4_soften cX4_soften 4 none, Cond.methodLink RX4 64 yX4_tu, Cond.instanceMethod yX4_tu, Cond.selects RX4 yX4_tu yX4_tu, Cond.code yX4_tu cX4_tu 3 (some .int), Cond.methodLink RX4 67 yX4_setTub, Cond.instanceMethod yX4_setTub, Cond.selects RX4 yX4_setTub yX4_setTub, Cond.code yX4_setTub cX4_setTub 4 none, Cond.methodLink RX4 26 yX4_isIn, Cond.static yX4_isIn, Cond.code yX4_isIn cX4_isIn 3 (some .boolean), Cond.methodLink RX4 93 yX4_sell, Cond.instanceMethod yX4_sell, Cond.selects RX4 yX4_sell yX4_sell, Cond.code yX4_sell cX4_sell 2 none, Cond.methodLink RX4 83 yX4_nextTub]
def wsX4_hourOn_r3 : List Cond := [Cond.instanceMethod yX4_nextTub, Cond.selects RX4 yX4_nextTub yX4_nextTub, Cond.code yX4_nextTub cX4_nextTub 3 (some .int)]
def wsX4_hourOn : List Cond := .code yX4_hourOn cX4_hourOn 3 none :: ((wsX4_hourOn_r1 ++ (wsX4_hourOn_r2 ++ wsX4_hourOn_r3)) ++ wsX40)
def wsX4_pass_r1 : List Cond := [Cond.fieldLink RX4 19 "ColdCreameryModel" "thrown" "I", Cond.fieldLink RX4 9 "ColdCreameryModel" "s" "[I", Cond.methodLink RX4 26 yX4_isIn, Cond.static yX4_isIn, Cond.initialized RX4, Cond.code yX4_isIn cX4_isIn 3 (some .boolean), Cond.methodLink RX4 33 yX4_no, Cond.instanceMethod yX4_no, Cond.selects RX4 yX4_no yX4_no, Cond.code yX4_no cX4_no 2 (some .int), Cond.methodLink RX4 96 yX4_hourOn, Cond.instanceMethod yX4_hourOn, Cond.selects RX4 yX4_hourOn yX4_hourOn, Cond.code yX4_hourOn cX4_hourOn 3 none, Cond.fieldLink RX4 23 "ColdCreameryModel" "churns" "I", Cond.fieldLink RX4 30 "ColdCreameryModel" "tubs" "I", Cond.methodLink RX4 70 Lib.Math.max.name, Cond.static Lib.Math.max.name, Cond.initialized "java/lang/Math", Cond.code Lib.Math.max.name Lib.Math.max.code 2 (some .int), Cond.methodLink RX4 73 yX4_heatNow, Cond.instanceMethod yX4_heatNow, Cond.selects RX4 yX4_heatNow yX4_heatNow, Cond.code yX4_heatNow cX4_heatNow 1 (some .int)]
def wsX4_pass_r2 : List Cond := [Cond.fieldLink RX4 16 "ColdCreameryModel" "heat" "[I", Cond.methodLink RX4 86 yX4_firmUp, Cond.instanceMethod yX4_firmUp, Cond.selects RX4 yX4_firmUp yX4_firmUp, Cond.code yX4_firmUp cX4_firmUp 3 none, Cond.methodLink RX4 40 Lib.Math.min.name, Cond.static Lib.Math.min.name, Cond.code Lib.Math.min.name Lib.Math.min.code 2 (some .int), Cond.methodLink RX4 46 yX4_ch, Cond.instanceMethod yX4_ch, Cond.selects RX4 yX4_ch yX4_ch, Cond.code yX4_ch cX4_ch 3 (some .int), Cond.methodLink RX4 57 yX4_setChurn, Cond.instanceMethod yX4_setChurn, Cond.selects RX4 yX4_setChurn yX4_setChurn, Cond.code yX4_setChurn cX4_setChurn 4 none, Cond.methodLink RX4 90 yX4_soften, Cond.instanceMethod yX4_soften, Cond.selects RX4 yX4_soften yX4_soften, Cond.code yX4_soften cX4_soften 4 none, Cond.methodLink RX4 64 yX4_tu, Cond.instanceMethod yX4_tu, Cond.selects RX4 yX4_tu yX4_tu, Cond.code yX4_tu cX4_tu 3 (some .int)]
def wsX4_pass_r3 : List Cond := [Cond.methodLink RX4 67 yX4_setTub, Cond.instanceMethod yX4_setTub, Cond.selects RX4 yX4_setTub yX4_setTub, Cond.code yX4_setTub cX4_setTub 4 none, Cond.methodLink RX4 93 yX4_sell, Cond.instanceMethod yX4_sell, Cond.selects RX4 yX4_sell yX4_sell, Cond.code yX4_sell cX4_sell 2 none, Cond.methodLink RX4 83 yX4_nextTub, Cond.instanceMethod yX4_nextTub, Cond.selects RX4 yX4_nextTub yX4_nextTub, Cond.code yX4_nextTub cX4_nextTub 3 (some .int)]
def wsX4_pass : List Cond := .code yX4_pass cX4_pass 4 (some .int) :: ((wsX4_pass_r1 ++ (wsX4_pass_r2 ++ wsX4_pass_r3)) ++ wsX40)
def wsX4_keep : List Cond := .code yX4_keep cX4_keep 1 none :: ([.fieldLink RX4 9 "ColdCreameryModel" "s" "[I", .fieldLink RX4 13 "ColdCreameryModel" "kept" "[I", .methodLink RX4 99 arraycopyName, .native arraycopyName, .static arraycopyName, .initialized "java/lang/System"] ++ wsX40)
def wsX4_bringBack : List Cond := .code yX4_bringBack cX4_bringBack 1 none :: ([.fieldLink RX4 13 "ColdCreameryModel" "kept" "[I", .fieldLink RX4 9 "ColdCreameryModel" "s" "[I", .methodLink RX4 99 arraycopyName, .native arraycopyName, .static arraycopyName, .initialized "java/lang/System"] ++ wsX40)
def wsX4_done_r1 : List Cond := [Cond.fieldLink RX4 19 "ColdCreameryModel" "thrown" "I", Cond.methodLink RX4 49 yX4_isChurn, Cond.instanceMethod yX4_isChurn, Cond.selects RX4 yX4_isChurn yX4_isChurn, Cond.initialized RX4, Cond.code yX4_isChurn cX4_isChurn 2 (some .boolean), Cond.fieldLink RX4 23 "ColdCreameryModel" "churns" "I", Cond.methodLink RX4 26 yX4_isIn, Cond.static yX4_isIn, Cond.code yX4_isIn cX4_isIn 3 (some .boolean), Cond.methodLink RX4 33 yX4_no, Cond.instanceMethod yX4_no, Cond.selects RX4 yX4_no yX4_no, Cond.code yX4_no cX4_no 2 (some .int), Cond.methodLink RX4 46 yX4_ch, Cond.instanceMethod yX4_ch, Cond.selects RX4 yX4_ch yX4_ch, Cond.code yX4_ch cX4_ch 3 (some .int), Cond.fieldLink RX4 9 "ColdCreameryModel" "s" "[I", Cond.methodLink RX4 105 yX4_keep, Cond.instanceMethod yX4_keep, Cond.selects RX4 yX4_keep yX4_keep, Cond.code yX4_keep cX4_keep 1 none, Cond.fieldLink RX4 13 "ColdCreameryModel" "kept" "[I"]
def wsX4_done_r2 : List Cond := [Cond.methodLink RX4 99 arraycopyName, Cond.native arraycopyName, Cond.static arraycopyName, Cond.initialized "java/lang/System", Cond.methodLink RX4 96 yX4_hourOn, Cond.instanceMethod yX4_hourOn, Cond.selects RX4 yX4_hourOn yX4_hourOn, Cond.code yX4_hourOn cX4_hourOn 3 none, Cond.fieldLink RX4 30 "ColdCreameryModel" "tubs" "I", Cond.methodLink RX4 70 Lib.Math.max.name, Cond.static Lib.Math.max.name, Cond.initialized "java/lang/Math", Cond.code Lib.Math.max.name Lib.Math.max.code 2 (some .int), Cond.methodLink RX4 73 yX4_heatNow, Cond.instanceMethod yX4_heatNow, Cond.selects RX4 yX4_heatNow yX4_heatNow, Cond.code yX4_heatNow cX4_heatNow 1 (some .int), Cond.fieldLink RX4 16 "ColdCreameryModel" "heat" "[I", Cond.methodLink RX4 86 yX4_firmUp, Cond.instanceMethod yX4_firmUp, Cond.selects RX4 yX4_firmUp yX4_firmUp, Cond.code yX4_firmUp cX4_firmUp 3 none, Cond.methodLink RX4 40 Lib.Math.min.name, Cond.static Lib.Math.min.name]
def wsX4_done_r3 : List Cond := [Cond.code Lib.Math.min.name Lib.Math.min.code 2 (some .int), Cond.methodLink RX4 57 yX4_setChurn, Cond.instanceMethod yX4_setChurn, Cond.selects RX4 yX4_setChurn yX4_setChurn, Cond.code yX4_setChurn cX4_setChurn 4 none, Cond.methodLink RX4 90 yX4_soften, Cond.instanceMethod yX4_soften, Cond.selects RX4 yX4_soften yX4_soften, Cond.code yX4_soften cX4_soften 4 none, Cond.methodLink RX4 64 yX4_tu, Cond.instanceMethod yX4_tu, Cond.selects RX4 yX4_tu yX4_tu, Cond.code yX4_tu cX4_tu 3 (some .int), Cond.methodLink RX4 67 yX4_setTub, Cond.instanceMethod yX4_setTub, Cond.selects RX4 yX4_setTub yX4_setTub, Cond.code yX4_setTub cX4_setTub 4 none, Cond.methodLink RX4 93 yX4_sell, Cond.instanceMethod yX4_sell, Cond.selects RX4 yX4_sell yX4_sell, Cond.code yX4_sell cX4_sell 2 none, Cond.methodLink RX4 83 yX4_nextTub, Cond.instanceMethod yX4_nextTub, Cond.selects RX4 yX4_nextTub yX4_nextTub]
def wsX4_done_r4 : List Cond := [Cond.code yX4_nextTub cX4_nextTub 3 (some .int), Cond.methodLink RX4 108 yX4_bringBack, Cond.instanceMethod yX4_bringBack, Cond.selects RX4 yX4_bringBack yX4_bringBack, Cond.code yX4_bringBack cX4_bringBack 1 none]
def wsX4_done : List Cond := .code yX4_done cX4_done 4 (some .int) :: ((wsX4_done_r1 ++ (wsX4_done_r2 ++ (wsX4_done_r3 ++ wsX4_done_r4))) ++ wsX40)
def wsX4_foresee_r1 : List Cond := [Cond.fieldLink RX4 19 "ColdCreameryModel" "thrown" "I", Cond.methodLink RX4 26 yX4_isIn, Cond.static yX4_isIn, Cond.initialized RX4, Cond.code yX4_isIn cX4_isIn 3 (some .boolean), Cond.methodLink RX4 33 yX4_no, Cond.instanceMethod yX4_no, Cond.selects RX4 yX4_no yX4_no, Cond.code yX4_no cX4_no 2 (some .int), Cond.methodLink RX4 105 yX4_keep, Cond.instanceMethod yX4_keep, Cond.selects RX4 yX4_keep yX4_keep, Cond.code yX4_keep cX4_keep 1 none, Cond.fieldLink RX4 9 "ColdCreameryModel" "s" "[I", Cond.fieldLink RX4 13 "ColdCreameryModel" "kept" "[I", Cond.methodLink RX4 99 arraycopyName, Cond.native arraycopyName, Cond.static arraycopyName, Cond.initialized "java/lang/System", Cond.methodLink RX4 96 yX4_hourOn, Cond.instanceMethod yX4_hourOn, Cond.selects RX4 yX4_hourOn yX4_hourOn, Cond.code yX4_hourOn cX4_hourOn 3 none, Cond.fieldLink RX4 23 "ColdCreameryModel" "churns" "I"]
def wsX4_foresee_r2 : List Cond := [Cond.fieldLink RX4 30 "ColdCreameryModel" "tubs" "I", Cond.methodLink RX4 70 Lib.Math.max.name, Cond.static Lib.Math.max.name, Cond.initialized "java/lang/Math", Cond.code Lib.Math.max.name Lib.Math.max.code 2 (some .int), Cond.methodLink RX4 73 yX4_heatNow, Cond.instanceMethod yX4_heatNow, Cond.selects RX4 yX4_heatNow yX4_heatNow, Cond.code yX4_heatNow cX4_heatNow 1 (some .int), Cond.fieldLink RX4 16 "ColdCreameryModel" "heat" "[I", Cond.methodLink RX4 86 yX4_firmUp, Cond.instanceMethod yX4_firmUp, Cond.selects RX4 yX4_firmUp yX4_firmUp, Cond.code yX4_firmUp cX4_firmUp 3 none, Cond.methodLink RX4 40 Lib.Math.min.name, Cond.static Lib.Math.min.name, Cond.code Lib.Math.min.name Lib.Math.min.code 2 (some .int), Cond.methodLink RX4 46 yX4_ch, Cond.instanceMethod yX4_ch, Cond.selects RX4 yX4_ch yX4_ch, Cond.code yX4_ch cX4_ch 3 (some .int), Cond.methodLink RX4 57 yX4_setChurn, Cond.instanceMethod yX4_setChurn, Cond.selects RX4 yX4_setChurn yX4_setChurn]
def wsX4_foresee_r3 : List Cond := [Cond.code yX4_setChurn cX4_setChurn 4 none, Cond.methodLink RX4 90 yX4_soften, Cond.instanceMethod yX4_soften, Cond.selects RX4 yX4_soften yX4_soften, Cond.code yX4_soften cX4_soften 4 none, Cond.methodLink RX4 64 yX4_tu, Cond.instanceMethod yX4_tu, Cond.selects RX4 yX4_tu yX4_tu, Cond.code yX4_tu cX4_tu 3 (some .int), Cond.methodLink RX4 67 yX4_setTub, Cond.instanceMethod yX4_setTub, Cond.selects RX4 yX4_setTub yX4_setTub, Cond.code yX4_setTub cX4_setTub 4 none, Cond.methodLink RX4 93 yX4_sell, Cond.instanceMethod yX4_sell, Cond.selects RX4 yX4_sell yX4_sell, Cond.code yX4_sell cX4_sell 2 none, Cond.methodLink RX4 83 yX4_nextTub, Cond.instanceMethod yX4_nextTub, Cond.selects RX4 yX4_nextTub yX4_nextTub, Cond.code yX4_nextTub cX4_nextTub 3 (some .int), Cond.methodLink RX4 80 yX4_counted, Cond.instanceMethod yX4_counted, Cond.selects RX4 yX4_counted yX4_counted]
def wsX4_foresee_r4 : List Cond := [Cond.code yX4_counted cX4_counted 3 (some .int), Cond.arrayClass .int, Cond.methodLink RX4 77 yX4_sum, Cond.instanceMethod yX4_sum, Cond.selects RX4 yX4_sum yX4_sum, Cond.code yX4_sum cX4_sum 4 (some .int), Cond.methodLink RX4 108 yX4_bringBack, Cond.instanceMethod yX4_bringBack, Cond.selects RX4 yX4_bringBack yX4_bringBack, Cond.code yX4_bringBack cX4_bringBack 1 none]
def wsX4_foresee : List Cond := .code yX4_foresee cX4_foresee 4 (some .int) :: ((wsX4_foresee_r1 ++ (wsX4_foresee_r2 ++ (wsX4_foresee_r3 ++ wsX4_foresee_r4))) ++ wsX40)
def wsX4_lasts : List Cond := .code yX4_lasts cX4_lasts 3 (some .int) :: ([.fieldLink RX4 19 "ColdCreameryModel" "thrown" "I", .fieldLink RX4 9 "ColdCreameryModel" "s" "[I", .fieldLink RX4 16 "ColdCreameryModel" "heat" "[I"] ++ wsX40)
def wsX4_salt_r1 : List Cond := [Cond.fieldLink RX4 19 "ColdCreameryModel" "thrown" "I", Cond.methodLink RX4 49 yX4_isChurn, Cond.instanceMethod yX4_isChurn, Cond.selects RX4 yX4_isChurn yX4_isChurn, Cond.initialized RX4, Cond.code yX4_isChurn cX4_isChurn 2 (some .boolean), Cond.fieldLink RX4 23 "ColdCreameryModel" "churns" "I", Cond.methodLink RX4 26 yX4_isIn, Cond.static yX4_isIn, Cond.code yX4_isIn cX4_isIn 3 (some .boolean), Cond.methodLink RX4 33 yX4_no, Cond.instanceMethod yX4_no, Cond.selects RX4 yX4_no yX4_no, Cond.code yX4_no cX4_no 2 (some .int), Cond.methodLink RX4 53 yX4_packed, Cond.instanceMethod yX4_packed, Cond.selects RX4 yX4_packed yX4_packed, Cond.code yX4_packed cX4_packed 4 (some .int), Cond.methodLink RX4 40 Lib.Math.min.name, Cond.static Lib.Math.min.name, Cond.initialized "java/lang/Math", Cond.code Lib.Math.min.name Lib.Math.min.code 2 (some .int), Cond.methodLink RX4 46 yX4_ch, Cond.instanceMethod yX4_ch]
def wsX4_salt_r2 : List Cond := [Cond.selects RX4 yX4_ch yX4_ch, Cond.code yX4_ch cX4_ch 3 (some .int), Cond.fieldLink RX4 9 "ColdCreameryModel" "s" "[I"]
def wsX4_salt : List Cond := .code yX4_salt cX4_salt 5 (some .int) :: ((wsX4_salt_r1 ++ wsX4_salt_r2) ++ wsX40)
def wsX4_share : List Cond := .code yX4_share cX4_share 2 (some .double) :: ([.fieldLink RX4 19 "ColdCreameryModel" "thrown" "I", .fieldLink RX4 9 "ColdCreameryModel" "s" "[I", .methodLink RX4 77 yX4_sum, .instanceMethod yX4_sum, .selects RX4 yX4_sum yX4_sum, .initialized RX4, .code yX4_sum cX4_sum 4 (some .int), .fieldLink RX4 30 "ColdCreameryModel" "tubs" "I", .methodLink RX4 64 yX4_tu, .instanceMethod yX4_tu, .selects RX4 yX4_tu yX4_tu, .code yX4_tu cX4_tu 3 (some .int)] ++ wsX40)
def wsX4_digest_r1 : List Cond := [Cond.fieldLink RX4 19 "ColdCreameryModel" "thrown" "I", Cond.constantLong RX4 111 (1103), Cond.constantLong RX4 113 (31), Cond.fieldLink RX4 16 "ColdCreameryModel" "heat" "[I", Cond.fieldLink RX4 23 "ColdCreameryModel" "churns" "I", Cond.fieldLink RX4 9 "ColdCreameryModel" "s" "[I", Cond.fieldLink RX4 30 "ColdCreameryModel" "tubs" "I", Cond.methodLink RX4 80 yX4_counted, Cond.instanceMethod yX4_counted, Cond.selects RX4 yX4_counted yX4_counted, Cond.initialized RX4, Cond.code yX4_counted cX4_counted 3 (some .int), Cond.arrayClass .int, Cond.methodLink RX4 73 yX4_heatNow, Cond.instanceMethod yX4_heatNow, Cond.selects RX4 yX4_heatNow yX4_heatNow, Cond.code yX4_heatNow cX4_heatNow 1 (some .int), Cond.methodLink RX4 77 yX4_sum, Cond.instanceMethod yX4_sum, Cond.selects RX4 yX4_sum yX4_sum, Cond.code yX4_sum cX4_sum 4 (some .int), Cond.methodLink RX4 64 yX4_tu, Cond.instanceMethod yX4_tu, Cond.selects RX4 yX4_tu yX4_tu]
def wsX4_digest_r2 : List Cond := [Cond.code yX4_tu cX4_tu 3 (some .int)]
def wsX4_digest : List Cond := .code yX4_digest cX4_digest 4 (some .long) :: ((wsX4_digest_r1 ++ wsX4_digest_r2) ++ wsX40)
def wsJ9_max_7cf53 : List Cond := .code yJ9_max_7cf53 cJ9_max_7cf53 2 (some .int) :: ([])
def wsJ9_min_7cf53 : List Cond := .code yJ9_min_7cf53 cJ9_min_7cf53 2 (some .int) :: ([])
def wsL_bring : List Cond := .codeWith yL_bring cL_bring 5 (some .int) [(0, 10, 13, 13), (0, 10, 17, 15)] :: ([.classLink RL 13 "java/lang/IndexOutOfBoundsException", .classLink RL 15 "java/lang/IllegalArgumentException", .methodLink RL 7 yX3_bring, .instanceMethod yX3_bring, .selects RX3 yX3_bring yX3_bring, .initialized RX3, .code yX3_bring cX3_bring 3 (some .int), .classLink RX3 19 "java/lang/IndexOutOfBoundsException", .initialized "java/lang/IndexOutOfBoundsException", .classLink RX3 26 "java/lang/IllegalArgumentException", .initialized "java/lang/IllegalArgumentException", .fieldLink RX3 10 "ColdCreamery" "cellar" "LColdCreamery$Cellar;", .fieldLink RX3 35 "ColdCreamery" "STOCK_LIMITS" "[I", .methodLink RX3 38 Lib.Math.min.name, .static Lib.Math.min.name, .initialized "java/lang/Math", .code Lib.Math.min.name Lib.Math.min.code 2 (some .int)] ++ wsX30 ++ wsX00 ++ (vx_atS RX3 23 "java/lang/IndexOutOfBoundsException" ["java/lang/RuntimeException", "java/lang/Exception"]).filter goodWord ++ (vx_atS RX3 30 "java/lang/IllegalArgumentException" ["java/lang/RuntimeException", "java/lang/Exception"]).filter goodWord)
def wsL_setHeat : List Cond := .codeWith yL_setHeat cL_setHeat 5 (some .int) [(0, 10, 13, 13), (0, 10, 17, 15)] :: ([.classLink RL 13 "java/lang/IndexOutOfBoundsException", .classLink RL 15 "java/lang/IllegalArgumentException", .methodLink RL 17 yX3_setHeat, .instanceMethod yX3_setHeat, .selects RX3 yX3_setHeat yX3_setHeat, .initialized RX3, .code yX3_setHeat cX3_setHeat 4 (some .int), .classLink RX3 19 "java/lang/IndexOutOfBoundsException", .initialized "java/lang/IndexOutOfBoundsException", .classLink RX3 26 "java/lang/IllegalArgumentException", .initialized "java/lang/IllegalArgumentException", .fieldLink RX3 10 "ColdCreamery" "cellar" "LColdCreamery$Cellar;"] ++ wsX30 ++ wsX00 ++ (vx_atS RX3 23 "java/lang/IndexOutOfBoundsException" ["java/lang/RuntimeException", "java/lang/Exception"]).filter goodWord ++ (vx_atS RX3 30 "java/lang/IllegalArgumentException" ["java/lang/RuntimeException", "java/lang/Exception"]).filter goodWord)
def wsL_churn : List Cond := .codeWith yL_churn cL_churn 3 (some .int) [(0, 8, 11, 24)] :: ([.classLink RL 24 "java/lang/IllegalStateException", .methodLink RL 20 yX3_churn, .instanceMethod yX3_churn, .selects RX3 yX3_churn yX3_churn, .initialized RX3, .code yX3_churn cX3_churn 2 (some .int), .classLink RX3 55 "java/lang/IllegalStateException", .initialized "java/lang/IllegalStateException", .fieldLink RX3 10 "ColdCreamery" "cellar" "LColdCreamery$Cellar;"] ++ wsX30 ++ wsX00 ++ (vx_atS RX3 59 "java/lang/IllegalStateException" ["java/lang/RuntimeException", "java/lang/Exception"]).filter goodWord)
def wsL_tub : List Cond := .codeWith yL_tub cL_tub 3 (some .int) [(0, 8, 11, 24)] :: ([.classLink RL 24 "java/lang/IllegalStateException", .methodLink RL 26 yX3_tub, .instanceMethod yX3_tub, .selects RX3 yX3_tub yX3_tub, .initialized RX3, .code yX3_tub cX3_tub 2 (some .int), .classLink RX3 55 "java/lang/IllegalStateException", .initialized "java/lang/IllegalStateException", .fieldLink RX3 10 "ColdCreamery" "cellar" "LColdCreamery$Cellar;"] ++ wsX30 ++ wsX00 ++ (vx_atS RX3 59 "java/lang/IllegalStateException" ["java/lang/RuntimeException", "java/lang/Exception"]).filter goodWord)
def wsL_pack_r1 : List Cond := [Cond.classLink RL 13 "java/lang/IndexOutOfBoundsException", Cond.classLink RL 15 "java/lang/IllegalArgumentException", Cond.classLink RL 24 "java/lang/IllegalStateException", Cond.methodLink RL 29 yX3_pack, Cond.instanceMethod yX3_pack, Cond.selects RX3 yX3_pack yX3_pack, Cond.initialized RX3, Cond.code yX3_pack cX3_pack 5 (some .int), Cond.classLink RX3 55 "java/lang/IllegalStateException", Cond.initialized "java/lang/IllegalStateException", Cond.fieldLink RX3 10 "ColdCreamery" "cellar" "LColdCreamery$Cellar;", Cond.methodLink RX3 65 yX3_existingChurn, Cond.instanceMethod yX3_existingChurn, Cond.selects RX3 yX3_existingChurn yX3_existingChurn, Cond.code yX3_existingChurn cX3_existingChurn 2 (some (.object "ColdCreamery$Churn")), Cond.classLink RX3 19 "java/lang/IndexOutOfBoundsException", Cond.initialized "java/lang/IndexOutOfBoundsException", Cond.methodLink RX3 69 yX3_checkPacked, Cond.static yX3_checkPacked, Cond.code yX3_checkPacked cX3_checkPacked 1 none, Cond.classLink RX3 26 "java/lang/IllegalArgumentException", Cond.initialized "java/lang/IllegalArgumentException", Cond.methodLink RX3 80 yX3_coldWithBrine, Cond.static yX3_coldWithBrine]
def wsL_pack_r2 : List Cond := [Cond.code yX3_coldWithBrine cX3_coldWithBrine 5 (some .int), Cond.methodLink RX3 38 Lib.Math.min.name, Cond.static Lib.Math.min.name, Cond.initialized "java/lang/Math", Cond.code Lib.Math.min.name Lib.Math.min.code 2 (some .int), Cond.methodLink RX3 150 yX3_coldOfIce, Cond.static yX3_coldOfIce, Cond.code yX3_coldOfIce cX3_coldOfIce 1 (some .int)]
def wsL_pack : List Cond := .codeWith yL_pack cL_pack 6 (some .int) [(0, 12, 15, 13), (0, 12, 19, 15), (0, 12, 23, 24)] :: ((wsL_pack_r1 ++ wsL_pack_r2) ++ wsX30 ++ wsX00 ++ wsX10 ++ (vx_atS RX3 59 "java/lang/IllegalStateException" ["java/lang/RuntimeException", "java/lang/Exception"]).filter goodWord ++ (vx_atS RX3 23 "java/lang/IndexOutOfBoundsException" ["java/lang/RuntimeException", "java/lang/Exception"]).filter goodWord ++ (vx_atS RX3 30 "java/lang/IllegalArgumentException" ["java/lang/RuntimeException", "java/lang/Exception"]).filter goodWord)
def wsL_pour_r1 : List Cond := [Cond.classLink RL 13 "java/lang/IndexOutOfBoundsException", Cond.classLink RL 15 "java/lang/IllegalArgumentException", Cond.classLink RL 24 "java/lang/IllegalStateException", Cond.methodLink RL 33 yX3_pour, Cond.instanceMethod yX3_pour, Cond.selects RX3 yX3_pour yX3_pour, Cond.initialized RX3, Cond.code yX3_pour cX3_pour 4 (some .int), Cond.classLink RX3 26 "java/lang/IllegalArgumentException", Cond.initialized "java/lang/IllegalArgumentException", Cond.classLink RX3 55 "java/lang/IllegalStateException", Cond.initialized "java/lang/IllegalStateException", Cond.fieldLink RX3 10 "ColdCreamery" "cellar" "LColdCreamery$Cellar;", Cond.methodLink RX3 65 yX3_existingChurn, Cond.instanceMethod yX3_existingChurn, Cond.selects RX3 yX3_existingChurn yX3_existingChurn, Cond.code yX3_existingChurn cX3_existingChurn 2 (some (.object "ColdCreamery$Churn")), Cond.classLink RX3 19 "java/lang/IndexOutOfBoundsException", Cond.initialized "java/lang/IndexOutOfBoundsException", Cond.methodLink RX3 93 yX1_add, Cond.instanceMethod yX1_add, Cond.selects RX1 yX1_add yX1_add, Cond.initialized RX1, Cond.code yX1_add cX1_add 3 none]
def wsL_pour_r2 : List Cond := [Cond.fieldLink RX1 13 "ColdCreamery$Churn" "cream" "I", Cond.fieldLink RX1 16 "ColdCreamery$Churn" "firm" "I"]
def wsL_pour : List Cond := .codeWith yL_pour cL_pour 5 (some .int) [(0, 10, 13, 13), (0, 10, 17, 15), (0, 10, 21, 24)] :: ((wsL_pour_r1 ++ wsL_pour_r2) ++ wsX30 ++ wsX00 ++ wsX10 ++ (vx_atS RX3 30 "java/lang/IllegalArgumentException" ["java/lang/RuntimeException", "java/lang/Exception"]).filter goodWord ++ (vx_atS RX3 59 "java/lang/IllegalStateException" ["java/lang/RuntimeException", "java/lang/Exception"]).filter goodWord ++ (vx_atS RX3 23 "java/lang/IndexOutOfBoundsException" ["java/lang/RuntimeException", "java/lang/Exception"]).filter goodWord)
def wsL_scoop_r1 : List Cond := [Cond.classLink RL 13 "java/lang/IndexOutOfBoundsException", Cond.classLink RL 24 "java/lang/IllegalStateException", Cond.methodLink RL 36 yX3_scoop, Cond.instanceMethod yX3_scoop, Cond.selects RX3 yX3_scoop yX3_scoop, Cond.initialized RX3, Cond.code yX3_scoop cX3_scoop 5 (some .int), Cond.classLink RX3 55 "java/lang/IllegalStateException", Cond.initialized "java/lang/IllegalStateException", Cond.methodLink RX3 65 yX3_existingChurn, Cond.instanceMethod yX3_existingChurn, Cond.selects RX3 yX3_existingChurn yX3_existingChurn, Cond.code yX3_existingChurn cX3_existingChurn 2 (some (.object "ColdCreamery$Churn")), Cond.classLink RX3 19 "java/lang/IndexOutOfBoundsException", Cond.initialized "java/lang/IndexOutOfBoundsException", Cond.fieldLink RX3 10 "ColdCreamery" "cellar" "LColdCreamery$Cellar;", Cond.methodLink RX3 99 yX3_existingTub, Cond.instanceMethod yX3_existingTub, Cond.selects RX3 yX3_existingTub yX3_existingTub, Cond.code yX3_existingTub cX3_existingTub 2 (some (.object "ColdCreamery$Tub")), Cond.methodLink RX3 105 yX2_take, Cond.instanceMethod yX2_take, Cond.selects RX2 yX2_take yX2_take, Cond.initialized RX2]
def wsL_scoop_r2 : List Cond := [Cond.code yX2_take cX2_take 3 none, Cond.fieldLink RX2 9 "ColdCreamery$Tub" "scoops" "I", Cond.methodLink RX2 21 Lib.Math.min.name, Cond.static Lib.Math.min.name, Cond.initialized "java/lang/Math", Cond.code Lib.Math.min.name Lib.Math.min.code 2 (some .int), Cond.fieldLink RX2 15 "ColdCreamery$Tub" "soft" "I", Cond.methodLink RX2 27 Lib.Math.max.name, Cond.static Lib.Math.max.name, Cond.code Lib.Math.max.name Lib.Math.max.code 2 (some .int)]
def wsL_scoop : List Cond := .codeWith yL_scoop cL_scoop 5 (some .int) [(0, 10, 13, 13), (0, 10, 17, 24)] :: ((wsL_scoop_r1 ++ wsL_scoop_r2) ++ wsX10 ++ wsX20 ++ wsX30 ++ wsX00 ++ (vx_atS RX3 59 "java/lang/IllegalStateException" ["java/lang/RuntimeException", "java/lang/Exception"]).filter goodWord ++ (vx_atS RX3 23 "java/lang/IndexOutOfBoundsException" ["java/lang/RuntimeException", "java/lang/Exception"]).filter goodWord)
def wsL_told : List Cond := .codeWith yL_told cL_told 5 (some .int) [(0, 10, 13, 13)] :: ([.classLink RL 13 "java/lang/IndexOutOfBoundsException", .methodLink RL 39 yX3_told, .instanceMethod yX3_told, .selects RX3 yX3_told yX3_told, .initialized RX3, .code yX3_told cX3_told 4 (some .int), .classLink RX3 19 "java/lang/IndexOutOfBoundsException", .initialized "java/lang/IndexOutOfBoundsException", .methodLink RX3 65 yX3_existingChurn, .instanceMethod yX3_existingChurn, .selects RX3 yX3_existingChurn yX3_existingChurn, .code yX3_existingChurn cX3_existingChurn 2 (some (.object "ColdCreamery$Churn")), .fieldLink RX3 10 "ColdCreamery" "cellar" "LColdCreamery$Cellar;", .methodLink RX3 116 yX1_number, .instanceMethod yX1_number, .selects RX1 yX1_number yX1_number, .initialized RX1, .code yX1_number cX1_number 2 (some .int), .fieldLink RX1 7 "ColdCreamery$Churn" "cold" "I", .fieldLink RX1 13 "ColdCreamery$Churn" "cream" "I", .fieldLink RX1 16 "ColdCreamery$Churn" "firm" "I"] ++ wsX30 ++ wsX00 ++ wsX10 ++ (vx_atS RX3 23 "java/lang/IndexOutOfBoundsException" ["java/lang/RuntimeException", "java/lang/Exception"]).filter goodWord)
def wsL_about : List Cond := .codeWith yL_about cL_about 5 (some .int) [(0, 10, 13, 13)] :: ([.classLink RL 13 "java/lang/IndexOutOfBoundsException", .methodLink RL 42 yX3_about, .instanceMethod yX3_about, .selects RX3 yX3_about yX3_about, .initialized RX3, .code yX3_about cX3_about 4 (some .int), .classLink RX3 19 "java/lang/IndexOutOfBoundsException", .initialized "java/lang/IndexOutOfBoundsException", .methodLink RX3 99 yX3_existingTub, .instanceMethod yX3_existingTub, .selects RX3 yX3_existingTub yX3_existingTub, .code yX3_existingTub cX3_existingTub 2 (some (.object "ColdCreamery$Tub")), .fieldLink RX3 10 "ColdCreamery" "cellar" "LColdCreamery$Cellar;", .methodLink RX3 120 yX2_number, .instanceMethod yX2_number, .selects RX2 yX2_number yX2_number, .initialized RX2, .code yX2_number cX2_number 2 (some .int), .fieldLink RX2 9 "ColdCreamery$Tub" "scoops" "I", .fieldLink RX2 15 "ColdCreamery$Tub" "soft" "I", .fieldLink RX2 18 "ColdCreamery$Tub" "sold" "I"] ++ wsX30 ++ wsX00 ++ wsX20 ++ (vx_atS RX3 23 "java/lang/IndexOutOfBoundsException" ["java/lang/RuntimeException", "java/lang/Exception"]).filter goodWord)
def wsL_count_r1 : List Cond := [Cond.classLink RL 13 "java/lang/IndexOutOfBoundsException", Cond.methodLink RL 45 yX3_count, Cond.instanceMethod yX3_count, Cond.selects RX3 yX3_count yX3_count, Cond.initialized RX3, Cond.code yX3_count cX3_count 2 (some .int), Cond.classLink RX3 19 "java/lang/IndexOutOfBoundsException", Cond.initialized "java/lang/IndexOutOfBoundsException", Cond.fieldLink RX3 10 "ColdCreamery" "cellar" "LColdCreamery$Cellar;", Cond.methodLink RX3 123 yX0_number, Cond.instanceMethod yX0_number, Cond.selects RX0 yX0_number yX0_number, Cond.initialized RX0, Cond.code yX0_number cX0_number 2 (some .int), Cond.fieldLink RX0 41 "ColdCreamery$Cellar" "hour" "I", Cond.fieldLink RX0 13 "ColdCreamery$Cellar" "stock" "[I", Cond.fieldLink RX0 49 "ColdCreamery$Cellar" "coins" "I", Cond.fieldLink RX0 59 "ColdCreamery$Cellar" "sentAway" "I", Cond.methodLink RX0 45 yX0_heatAt, Cond.instanceMethod yX0_heatAt, Cond.selects RX0 yX0_heatAt yX0_heatAt, Cond.code yX0_heatAt cX0_heatAt 2 (some .int), Cond.fieldLink RX0 18 "ColdCreamery$Cellar" "heats" "[I", Cond.methodLink RX0 62 yJ9_floorMod_7cf53]
def wsL_count_r2 : List Cond := [Cond.static yJ9_floorMod_7cf53, Cond.initialized RJ9, Cond.code yJ9_floorMod_7cf53 cJ9_floorMod_7cf53 3 (some .int), Cond.methodLink RX0 52 yX0_scoopsInTubs, Cond.instanceMethod yX0_scoopsInTubs, Cond.selects RX0 yX0_scoopsInTubs yX0_scoopsInTubs, Cond.code yX0_scoopsInTubs cX0_scoopsInTubs 3 (some .int), Cond.fieldLink RX0 68 "ColdCreamery$Cellar" "tubCount" "I", Cond.fieldLink RX0 29 "ColdCreamery$Cellar" "tubs" "[LColdCreamery$Tub;", Cond.methodLink RX0 56 yX0_soldScoops, Cond.instanceMethod yX0_soldScoops, Cond.selects RX0 yX0_soldScoops yX0_soldScoops, Cond.code yX0_soldScoops cX0_soldScoops 3 (some .int)]
def wsL_count : List Cond := .codeWith yL_count cL_count 4 (some .int) [(0, 9, 12, 13)] :: ((wsL_count_r1 ++ wsL_count_r2) ++ wsX30 ++ wsX00 ++ wsX20 ++ (vx_atS RX3 23 "java/lang/IndexOutOfBoundsException" ["java/lang/RuntimeException", "java/lang/Exception"]).filter goodWord)
def wsL_pass_r1 : List Cond := [Cond.classLink RL 15 "java/lang/IllegalArgumentException", Cond.methodLink RL 49 yX3_pass, Cond.instanceMethod yX3_pass, Cond.selects RX3 yX3_pass yX3_pass, Cond.initialized RX3, Cond.code yX3_pass cX3_pass 3 (some .int), Cond.fieldLink RX3 10 "ColdCreamery" "cellar" "LColdCreamery$Cellar;", Cond.methodLink RX3 128 yX3_checkHours, Cond.static yX3_checkHours, Cond.code yX3_checkHours cX3_checkHours 1 none, Cond.classLink RX3 26 "java/lang/IllegalArgumentException", Cond.initialized "java/lang/IllegalArgumentException", Cond.methodLink RX3 134 yX0_runHours, Cond.instanceMethod yX0_runHours, Cond.selects RX0 yX0_runHours yX0_runHours, Cond.initialized RX0, Cond.code yX0_runHours cX0_runHours 3 none, Cond.methodLink RX0 80 yX0_runHour, Cond.instanceMethod yX0_runHour, Cond.selects RX0 yX0_runHour yX0_runHour, Cond.code yX0_runHour cX0_runHour 3 none, Cond.fieldLink RX0 41 "ColdCreamery$Cellar" "hour" "I", Cond.fieldLink RX0 83 "ColdCreamery$Cellar" "churnCount" "I", Cond.fieldLink RX0 23 "ColdCreamery$Cellar" "churns" "[LColdCreamery$Churn;"]
def wsL_pass_r2 : List Cond := [Cond.fieldLink RX0 68 "ColdCreamery$Cellar" "tubCount" "I", Cond.fieldLink RX0 29 "ColdCreamery$Cellar" "tubs" "[LColdCreamery$Tub;", Cond.fieldLink RX0 13 "ColdCreamery$Cellar" "stock" "[I", Cond.methodLink RX0 45 yX0_heatAt, Cond.instanceMethod yX0_heatAt, Cond.selects RX0 yX0_heatAt yX0_heatAt, Cond.code yX0_heatAt cX0_heatAt 2 (some .int), Cond.fieldLink RX0 18 "ColdCreamery$Cellar" "heats" "[I", Cond.methodLink RX0 62 yJ9_floorMod_7cf53, Cond.static yJ9_floorMod_7cf53, Cond.initialized RJ9, Cond.code yJ9_floorMod_7cf53 cJ9_floorMod_7cf53 3 (some .int), Cond.methodLink RX0 86 yX1_turn, Cond.instanceMethod yX1_turn, Cond.selects RX1 yX1_turn yX1_turn, Cond.initialized RX1, Cond.code yX1_turn cX1_turn 2 none, Cond.fieldLink RX1 13 "ColdCreamery$Churn" "cream" "I", Cond.fieldLink RX1 16 "ColdCreamery$Churn" "firm" "I", Cond.fieldLink RX1 7 "ColdCreamery$Churn" "cold" "I", Cond.static yX3_firmAfterHour, Cond.code yX3_firmAfterHour cX3_firmAfterHour 2 (some .int), Cond.methodLink RX3 38 Lib.Math.min.name, Cond.static Lib.Math.min.name]
def wsL_pass_r3 : List Cond := [Cond.initialized "java/lang/Math", Cond.code Lib.Math.min.name Lib.Math.min.code 2 (some .int), Cond.static yX3_coldAfterHour, Cond.code yX3_coldAfterHour cX3_coldAfterHour 2 (some .int), Cond.methodLink RX3 153 Lib.Math.max.name, Cond.static Lib.Math.max.name, Cond.code Lib.Math.max.name Lib.Math.max.code 2 (some .int), Cond.methodLink RX0 90 yX2_standInHeat, Cond.instanceMethod yX2_standInHeat, Cond.selects RX2 yX2_standInHeat yX2_standInHeat, Cond.initialized RX2, Cond.code yX2_standInHeat cX2_standInHeat 3 none, Cond.fieldLink RX2 9 "ColdCreamery$Tub" "scoops" "I", Cond.fieldLink RX2 15 "ColdCreamery$Tub" "soft" "I", Cond.methodLink RX2 21 Lib.Math.min.name, Cond.methodLink RX2 27 Lib.Math.max.name, Cond.methodLink RX0 94 yX0_servePeople, Cond.instanceMethod yX0_servePeople, Cond.selects RX0 yX0_servePeople yX0_servePeople, Cond.code yX0_servePeople cX0_servePeople 5 none, Cond.methodLink RX0 104 yX0_serveOne, Cond.instanceMethod yX0_serveOne, Cond.selects RX0 yX0_serveOne yX0_serveOne, Cond.code yX0_serveOne cX0_serveOne 2 none]
def wsL_pass_r4 : List Cond := [Cond.fieldLink RX0 59 "ColdCreamery$Cellar" "sentAway" "I", Cond.fieldLink RX0 49 "ColdCreamery$Cellar" "coins" "I", Cond.methodLink RX0 107 yX0_sellingTub, Cond.instanceMethod yX0_sellingTub, Cond.selects RX0 yX0_sellingTub yX0_sellingTub, Cond.code yX0_sellingTub cX0_sellingTub 4 (some .int), Cond.methodLink RX0 110 yX2_sellScoop, Cond.instanceMethod yX2_sellScoop, Cond.selects RX2 yX2_sellScoop yX2_sellScoop, Cond.code yX2_sellScoop cX2_sellScoop 1 (some .int), Cond.fieldLink RX2 18 "ColdCreamery$Tub" "sold" "I", Cond.static yX3_iceAfterHour, Cond.code yX3_iceAfterHour cX3_iceAfterHour 3 (some .int), Cond.methodLink RX0 101 yX2_forgetSoftnessIfEmpty, Cond.instanceMethod yX2_forgetSoftnessIfEmpty, Cond.selects RX2 yX2_forgetSoftnessIfEmpty yX2_forgetSoftnessIfEmpty, Cond.code yX2_forgetSoftnessIfEmpty cX2_forgetSoftnessIfEmpty 1 none]
def wsL_pass : List Cond := .codeWith yL_pass cL_pass 4 (some .int) [(0, 9, 12, 15)] :: ((wsL_pass_r1 ++ (wsL_pass_r2 ++ (wsL_pass_r3 ++ wsL_pass_r4))) ++ wsX30 ++ wsX00 ++ wsX10 ++ wsX20 ++ (vx_atS RX3 30 "java/lang/IllegalArgumentException" ["java/lang/RuntimeException", "java/lang/Exception"]).filter goodWord)
def wsL_done_r1 : List Cond := [Cond.classLink RL 13 "java/lang/IndexOutOfBoundsException", Cond.methodLink RL 52 yX3_done, Cond.instanceMethod yX3_done, Cond.selects RX3 yX3_done yX3_done, Cond.initialized RX3, Cond.code yX3_done cX3_done 2 (some .int), Cond.fieldLink RX3 10 "ColdCreamery" "cellar" "LColdCreamery$Cellar;", Cond.methodLink RX3 65 yX3_existingChurn, Cond.instanceMethod yX3_existingChurn, Cond.selects RX3 yX3_existingChurn yX3_existingChurn, Cond.code yX3_existingChurn cX3_existingChurn 2 (some (.object "ColdCreamery$Churn")), Cond.classLink RX3 19 "java/lang/IndexOutOfBoundsException", Cond.initialized "java/lang/IndexOutOfBoundsException", Cond.methodLink RX3 137 yX0_hoursUntilFirm, Cond.instanceMethod yX0_hoursUntilFirm, Cond.selects RX0 yX0_hoursUntilFirm yX0_hoursUntilFirm, Cond.initialized RX0, Cond.code yX0_hoursUntilFirm cX0_hoursUntilFirm 5 (some .int), Cond.fieldLink RX0 41 "ColdCreamery$Cellar" "hour" "I", Cond.static yX3_firmAfterHour, Cond.code yX3_firmAfterHour cX3_firmAfterHour 2 (some .int), Cond.methodLink RX3 38 Lib.Math.min.name, Cond.static Lib.Math.min.name, Cond.initialized "java/lang/Math"]
def wsL_done_r2 : List Cond := [Cond.code Lib.Math.min.name Lib.Math.min.code 2 (some .int), Cond.methodLink RX0 45 yX0_heatAt, Cond.instanceMethod yX0_heatAt, Cond.selects RX0 yX0_heatAt yX0_heatAt, Cond.code yX0_heatAt cX0_heatAt 2 (some .int), Cond.fieldLink RX0 18 "ColdCreamery$Cellar" "heats" "[I", Cond.methodLink RX0 62 yJ9_floorMod_7cf53, Cond.static yJ9_floorMod_7cf53, Cond.initialized RJ9, Cond.code yJ9_floorMod_7cf53 cJ9_floorMod_7cf53 3 (some .int), Cond.static yX3_coldAfterHour, Cond.code yX3_coldAfterHour cX3_coldAfterHour 2 (some .int), Cond.methodLink RX3 153 Lib.Math.max.name, Cond.static Lib.Math.max.name, Cond.code Lib.Math.max.name Lib.Math.max.code 2 (some .int)]
def wsL_done : List Cond := .codeWith yL_done cL_done 4 (some .int) [(0, 9, 12, 13)] :: ((wsL_done_r1 ++ wsL_done_r2) ++ wsX30 ++ wsX00 ++ wsX10 ++ (vx_atS RX3 23 "java/lang/IndexOutOfBoundsException" ["java/lang/RuntimeException", "java/lang/Exception"]).filter goodWord)
def wsL_foresee_r1 : List Cond := [Cond.classLink RL 15 "java/lang/IllegalArgumentException", Cond.classLink RL 13 "java/lang/IndexOutOfBoundsException", Cond.methodLink RL 55 yX3_foresee, Cond.instanceMethod yX3_foresee, Cond.selects RX3 yX3_foresee yX3_foresee, Cond.initialized RX3, Cond.code yX3_foresee cX3_foresee 3 (some .int), Cond.classLink RX3 19 "java/lang/IndexOutOfBoundsException", Cond.initialized "java/lang/IndexOutOfBoundsException", Cond.fieldLink RX3 16 "ColdCreamery" "foreseen" "LColdCreamery$Cellar;", Cond.fieldLink RX3 10 "ColdCreamery" "cellar" "LColdCreamery$Cellar;", Cond.methodLink RX3 128 yX3_checkHours, Cond.static yX3_checkHours, Cond.code yX3_checkHours cX3_checkHours 1 none, Cond.classLink RX3 26 "java/lang/IllegalArgumentException", Cond.initialized "java/lang/IllegalArgumentException", Cond.methodLink RX3 143 yX0_copyFrom, Cond.instanceMethod yX0_copyFrom, Cond.selects RX0 yX0_copyFrom yX0_copyFrom, Cond.initialized RX0, Cond.code yX0_copyFrom cX0_copyFrom 3 none, Cond.fieldLink RX0 13 "ColdCreamery$Cellar" "stock" "[I", Cond.methodLink RX0 128 arraycopyName, Cond.native arraycopyName]
def wsL_foresee_r2 : List Cond := [Cond.static arraycopyName, Cond.initialized "java/lang/System", Cond.fieldLink RX0 18 "ColdCreamery$Cellar" "heats" "[I", Cond.fieldLink RX0 23 "ColdCreamery$Cellar" "churns" "[LColdCreamery$Churn;", Cond.fieldLink RX0 29 "ColdCreamery$Cellar" "tubs" "[LColdCreamery$Tub;", Cond.fieldLink RX0 83 "ColdCreamery$Cellar" "churnCount" "I", Cond.fieldLink RX0 68 "ColdCreamery$Cellar" "tubCount" "I", Cond.fieldLink RX0 41 "ColdCreamery$Cellar" "hour" "I", Cond.fieldLink RX0 49 "ColdCreamery$Cellar" "coins" "I", Cond.fieldLink RX0 59 "ColdCreamery$Cellar" "sentAway" "I", Cond.methodLink RX0 134 yX1_copyFrom, Cond.instanceMethod yX1_copyFrom, Cond.selects RX1 yX1_copyFrom yX1_copyFrom, Cond.initialized RX1, Cond.code yX1_copyFrom cX1_copyFrom 2 none, Cond.fieldLink RX1 7 "ColdCreamery$Churn" "cold" "I", Cond.fieldLink RX1 13 "ColdCreamery$Churn" "cream" "I", Cond.fieldLink RX1 16 "ColdCreamery$Churn" "firm" "I", Cond.methodLink RX0 138 yX2_copyFrom, Cond.instanceMethod yX2_copyFrom, Cond.selects RX2 yX2_copyFrom yX2_copyFrom, Cond.initialized RX2, Cond.code yX2_copyFrom cX2_copyFrom 2 none, Cond.fieldLink RX2 9 "ColdCreamery$Tub" "scoops" "I"]
def wsL_foresee_r3 : List Cond := [Cond.fieldLink RX2 15 "ColdCreamery$Tub" "soft" "I", Cond.fieldLink RX2 18 "ColdCreamery$Tub" "sold" "I", Cond.methodLink RX3 134 yX0_runHours, Cond.instanceMethod yX0_runHours, Cond.selects RX0 yX0_runHours yX0_runHours, Cond.code yX0_runHours cX0_runHours 3 none, Cond.methodLink RX0 80 yX0_runHour, Cond.instanceMethod yX0_runHour, Cond.selects RX0 yX0_runHour yX0_runHour, Cond.code yX0_runHour cX0_runHour 3 none, Cond.methodLink RX0 45 yX0_heatAt, Cond.instanceMethod yX0_heatAt, Cond.selects RX0 yX0_heatAt yX0_heatAt, Cond.code yX0_heatAt cX0_heatAt 2 (some .int), Cond.methodLink RX0 62 yJ9_floorMod_7cf53, Cond.static yJ9_floorMod_7cf53, Cond.initialized RJ9, Cond.code yJ9_floorMod_7cf53 cJ9_floorMod_7cf53 3 (some .int), Cond.methodLink RX0 86 yX1_turn, Cond.instanceMethod yX1_turn, Cond.selects RX1 yX1_turn yX1_turn, Cond.code yX1_turn cX1_turn 2 none, Cond.static yX3_firmAfterHour, Cond.code yX3_firmAfterHour cX3_firmAfterHour 2 (some .int)]
def wsL_foresee_r4 : List Cond := [Cond.methodLink RX3 38 Lib.Math.min.name, Cond.static Lib.Math.min.name, Cond.initialized "java/lang/Math", Cond.code Lib.Math.min.name Lib.Math.min.code 2 (some .int), Cond.static yX3_coldAfterHour, Cond.code yX3_coldAfterHour cX3_coldAfterHour 2 (some .int), Cond.methodLink RX3 153 Lib.Math.max.name, Cond.static Lib.Math.max.name, Cond.code Lib.Math.max.name Lib.Math.max.code 2 (some .int), Cond.methodLink RX0 90 yX2_standInHeat, Cond.instanceMethod yX2_standInHeat, Cond.selects RX2 yX2_standInHeat yX2_standInHeat, Cond.code yX2_standInHeat cX2_standInHeat 3 none, Cond.methodLink RX2 21 Lib.Math.min.name, Cond.methodLink RX2 27 Lib.Math.max.name, Cond.methodLink RX0 94 yX0_servePeople, Cond.instanceMethod yX0_servePeople, Cond.selects RX0 yX0_servePeople yX0_servePeople, Cond.code yX0_servePeople cX0_servePeople 5 none, Cond.methodLink RX0 104 yX0_serveOne, Cond.instanceMethod yX0_serveOne, Cond.selects RX0 yX0_serveOne yX0_serveOne, Cond.code yX0_serveOne cX0_serveOne 2 none, Cond.methodLink RX0 107 yX0_sellingTub]
def wsL_foresee_r5 : List Cond := [Cond.instanceMethod yX0_sellingTub, Cond.selects RX0 yX0_sellingTub yX0_sellingTub, Cond.code yX0_sellingTub cX0_sellingTub 4 (some .int), Cond.methodLink RX0 110 yX2_sellScoop, Cond.instanceMethod yX2_sellScoop, Cond.selects RX2 yX2_sellScoop yX2_sellScoop, Cond.code yX2_sellScoop cX2_sellScoop 1 (some .int), Cond.static yX3_iceAfterHour, Cond.code yX3_iceAfterHour cX3_iceAfterHour 3 (some .int), Cond.methodLink RX0 101 yX2_forgetSoftnessIfEmpty, Cond.instanceMethod yX2_forgetSoftnessIfEmpty, Cond.selects RX2 yX2_forgetSoftnessIfEmpty yX2_forgetSoftnessIfEmpty, Cond.code yX2_forgetSoftnessIfEmpty cX2_forgetSoftnessIfEmpty 1 none, Cond.methodLink RX3 123 yX0_number, Cond.instanceMethod yX0_number, Cond.selects RX0 yX0_number yX0_number, Cond.code yX0_number cX0_number 2 (some .int), Cond.methodLink RX0 52 yX0_scoopsInTubs, Cond.instanceMethod yX0_scoopsInTubs, Cond.selects RX0 yX0_scoopsInTubs yX0_scoopsInTubs, Cond.code yX0_scoopsInTubs cX0_scoopsInTubs 3 (some .int), Cond.methodLink RX0 56 yX0_soldScoops, Cond.instanceMethod yX0_soldScoops, Cond.selects RX0 yX0_soldScoops yX0_soldScoops]
def wsL_foresee_r6 : List Cond := [Cond.code yX0_soldScoops cX0_soldScoops 3 (some .int)]
def wsL_foresee : List Cond := .codeWith yL_foresee cL_foresee 5 (some .int) [(0, 10, 13, 15), (0, 10, 17, 13)] :: ((wsL_foresee_r1 ++ (wsL_foresee_r2 ++ (wsL_foresee_r3 ++ (wsL_foresee_r4 ++ (wsL_foresee_r5 ++ wsL_foresee_r6))))) ++ wsX30 ++ wsX00 ++ wsX10 ++ wsX20 ++ (vx_atS RX3 23 "java/lang/IndexOutOfBoundsException" ["java/lang/RuntimeException", "java/lang/Exception"]).filter goodWord ++ (vx_atS RX3 30 "java/lang/IllegalArgumentException" ["java/lang/RuntimeException", "java/lang/Exception"]).filter goodWord)
def wsL_salt_r1 : List Cond := [Cond.classLink RL 13 "java/lang/IndexOutOfBoundsException", Cond.classLink RL 15 "java/lang/IllegalArgumentException", Cond.methodLink RL 58 yX3_salt, Cond.instanceMethod yX3_salt, Cond.selects RX3 yX3_salt yX3_salt, Cond.initialized RX3, Cond.code yX3_salt cX3_salt 6 (some .int), Cond.methodLink RX3 153 Lib.Math.max.name, Cond.static Lib.Math.max.name, Cond.initialized "java/lang/Math", Cond.code Lib.Math.max.name Lib.Math.max.code 2 (some .int), Cond.methodLink RX3 38 Lib.Math.min.name, Cond.static Lib.Math.min.name, Cond.code Lib.Math.min.name Lib.Math.min.code 2 (some .int), Cond.methodLink RX3 65 yX3_existingChurn, Cond.instanceMethod yX3_existingChurn, Cond.selects RX3 yX3_existingChurn yX3_existingChurn, Cond.code yX3_existingChurn cX3_existingChurn 2 (some (.object "ColdCreamery$Churn")), Cond.classLink RX3 19 "java/lang/IndexOutOfBoundsException", Cond.initialized "java/lang/IndexOutOfBoundsException", Cond.fieldLink RX3 10 "ColdCreamery" "cellar" "LColdCreamery$Cellar;", Cond.methodLink RX3 69 yX3_checkPacked, Cond.static yX3_checkPacked, Cond.code yX3_checkPacked cX3_checkPacked 1 none]
def wsL_salt_r2 : List Cond := [Cond.classLink RX3 26 "java/lang/IllegalArgumentException", Cond.initialized "java/lang/IllegalArgumentException", Cond.methodLink RX3 150 yX3_coldOfIce, Cond.static yX3_coldOfIce, Cond.code yX3_coldOfIce cX3_coldOfIce 1 (some .int)]
def wsL_salt : List Cond := .codeWith yL_salt cL_salt 5 (some .int) [(0, 10, 13, 13), (0, 10, 17, 15)] :: ((wsL_salt_r1 ++ wsL_salt_r2) ++ wsX10 ++ wsX30 ++ wsX00 ++ (vx_atS RX3 23 "java/lang/IndexOutOfBoundsException" ["java/lang/RuntimeException", "java/lang/Exception"]).filter goodWord ++ (vx_atS RX3 30 "java/lang/IllegalArgumentException" ["java/lang/RuntimeException", "java/lang/Exception"]).filter goodWord)
def wsL_law0_r1 : List Cond := [Cond.classLink RL 8 RX3, Cond.instantiable RX3 2, Cond.initialized RX3, Cond.classLink RL 62 RX4, Cond.instantiable RX4 6, Cond.initialized RX4, Cond.arrayClass .long, Cond.methodLink RL 61 yX3_init, Cond.instanceMethod yX3_init, Cond.code yX3_init cX3_init 1 none, Cond.methodLink RX3 1 objectInit, Cond.instanceMethod objectInit, Cond.code objectInit ⟨#[0xb1]⟩ 1 none, Cond.classLink RX3 7 RX0, Cond.instantiable RX0 9, Cond.initialized RX0, Cond.fieldLink RX3 10 "ColdCreamery" "cellar" "LColdCreamery$Cellar;", Cond.fieldLink RX3 16 "ColdCreamery" "foreseen" "LColdCreamery$Cellar;", Cond.methodLink RX3 9 yX0_init, Cond.instanceMethod yX0_init, Cond.code yX0_init cX0_init 2 none, Cond.methodLink RX0 3 objectInit, Cond.arrayClass .int, Cond.fieldLink RX0 13 "ColdCreamery$Cellar" "stock" "[I"]
def wsL_law0_r2 : List Cond := [Cond.fieldLink RX0 18 "ColdCreamery$Cellar" "heats" "[I", Cond.classLink RX0 21 RX1, Cond.fieldLink RX0 23 "ColdCreamery$Cellar" "churns" "[LColdCreamery$Churn;", Cond.classLink RX0 27 RX2, Cond.fieldLink RX0 29 "ColdCreamery$Cellar" "tubs" "[LColdCreamery$Tub;", Cond.instantiable RX1 3, Cond.initialized RX1, Cond.instantiable RX2 3, Cond.initialized RX2, Cond.methodLink RX0 33 yJ7_fill_53178, Cond.static yJ7_fill_53178, Cond.initialized RJ7, Cond.code yJ7_fill_53178 cJ7_fill_53178 4 none, Cond.instanceMethod yX1_init, Cond.code yX1_init cX1_init 1 none, Cond.methodLink RX1 1 objectInit, Cond.instanceMethod yX2_init, Cond.code yX2_init cX2_init 1 none, Cond.methodLink RX2 3 objectInit, Cond.methodLink RL 64 yX4_init, Cond.instanceMethod yX4_init, Cond.code yX4_init cX4_init 1 none, Cond.methodLink RX4 3 objectInit, Cond.fieldLink RX4 9 "ColdCreameryModel" "s" "[I"]
def wsL_law0_r3 : List Cond := [Cond.fieldLink RX4 13 "ColdCreameryModel" "kept" "[I", Cond.fieldLink RX4 16 "ColdCreameryModel" "heat" "[I", Cond.methodLink RL 65 yL_bring, Cond.static yL_bring, Cond.initialized RL, Cond.codeWith yL_bring cL_bring 5 (some .int) [(0, 10, 13, 13), (0, 10, 17, 15)], Cond.classLink RL 13 "java/lang/IndexOutOfBoundsException", Cond.classLink RL 15 "java/lang/IllegalArgumentException", Cond.methodLink RL 7 yX3_bring, Cond.instanceMethod yX3_bring, Cond.selects RX3 yX3_bring yX3_bring, Cond.code yX3_bring cX3_bring 3 (some .int), Cond.classLink RX3 19 "java/lang/IndexOutOfBoundsException", Cond.initialized "java/lang/IndexOutOfBoundsException", Cond.classLink RX3 26 "java/lang/IllegalArgumentException", Cond.initialized "java/lang/IllegalArgumentException", Cond.fieldLink RX3 35 "ColdCreamery" "STOCK_LIMITS" "[I", Cond.methodLink RX3 38 Lib.Math.min.name, Cond.static Lib.Math.min.name, Cond.initialized "java/lang/Math", Cond.code Lib.Math.min.name Lib.Math.min.code 2 (some .int), Cond.methodLink RL 70 yX4_bring, Cond.instanceMethod yX4_bring, Cond.selects RX4 yX4_bring yX4_bring]
def wsL_law0_r4 : List Cond := [Cond.code yX4_bring cX4_bring 3 (some .int), Cond.fieldLink RX4 19 "ColdCreameryModel" "thrown" "I", Cond.fieldLink RX4 37 "ColdCreameryModel" "MOST" "[I", Cond.methodLink RX4 40 Lib.Math.min.name, Cond.methodLink RX4 26 yX4_isIn, Cond.static yX4_isIn, Cond.code yX4_isIn cX4_isIn 3 (some .boolean), Cond.methodLink RX4 33 yX4_no, Cond.instanceMethod yX4_no, Cond.selects RX4 yX4_no yX4_no, Cond.code yX4_no cX4_no 2 (some .int), Cond.methodLink RL 71 yX4_thrown, Cond.instanceMethod yX4_thrown, Cond.selects RX4 yX4_thrown yX4_thrown, Cond.code yX4_thrown cX4_thrown 1 (some .int), Cond.methodLink RL 74 yL_setHeat, Cond.static yL_setHeat, Cond.codeWith yL_setHeat cL_setHeat 5 (some .int) [(0, 10, 13, 13), (0, 10, 17, 15)], Cond.methodLink RL 17 yX3_setHeat, Cond.instanceMethod yX3_setHeat, Cond.selects RX3 yX3_setHeat yX3_setHeat, Cond.code yX3_setHeat cX3_setHeat 4 (some .int), Cond.methodLink RL 76 yX4_setHeat, Cond.instanceMethod yX4_setHeat]
def wsL_law0_r5 : List Cond := [Cond.selects RX4 yX4_setHeat yX4_setHeat, Cond.code yX4_setHeat cX4_setHeat 4 (some .int), Cond.methodLink RL 77 yL_churn, Cond.static yL_churn, Cond.codeWith yL_churn cL_churn 3 (some .int) [(0, 8, 11, 24)], Cond.classLink RL 24 "java/lang/IllegalStateException", Cond.methodLink RL 20 yX3_churn, Cond.instanceMethod yX3_churn, Cond.selects RX3 yX3_churn yX3_churn, Cond.code yX3_churn cX3_churn 2 (some .int), Cond.classLink RX3 55 "java/lang/IllegalStateException", Cond.initialized "java/lang/IllegalStateException", Cond.methodLink RL 80 yX4_churn, Cond.instanceMethod yX4_churn, Cond.selects RX4 yX4_churn yX4_churn, Cond.code yX4_churn cX4_churn 1 (some .int), Cond.fieldLink RX4 23 "ColdCreameryModel" "churns" "I", Cond.methodLink RL 81 yL_tub, Cond.static yL_tub, Cond.codeWith yL_tub cL_tub 3 (some .int) [(0, 8, 11, 24)], Cond.methodLink RL 26 yX3_tub, Cond.instanceMethod yX3_tub, Cond.selects RX3 yX3_tub yX3_tub, Cond.code yX3_tub cX3_tub 2 (some .int)]
def wsL_law0_r6 : List Cond := [Cond.methodLink RL 83 yX4_tub, Cond.instanceMethod yX4_tub, Cond.selects RX4 yX4_tub yX4_tub, Cond.code yX4_tub cX4_tub 1 (some .int), Cond.fieldLink RX4 30 "ColdCreameryModel" "tubs" "I", Cond.methodLink RL 84 yL_pack, Cond.static yL_pack, Cond.codeWith yL_pack cL_pack 6 (some .int) [(0, 12, 15, 13), (0, 12, 19, 15), (0, 12, 23, 24)], Cond.methodLink RL 29 yX3_pack, Cond.instanceMethod yX3_pack, Cond.selects RX3 yX3_pack yX3_pack, Cond.code yX3_pack cX3_pack 5 (some .int), Cond.methodLink RX3 65 yX3_existingChurn, Cond.instanceMethod yX3_existingChurn, Cond.selects RX3 yX3_existingChurn yX3_existingChurn, Cond.code yX3_existingChurn cX3_existingChurn 2 (some (.object "ColdCreamery$Churn")), Cond.methodLink RX3 69 yX3_checkPacked, Cond.static yX3_checkPacked, Cond.code yX3_checkPacked cX3_checkPacked 1 none, Cond.methodLink RX3 80 yX3_coldWithBrine, Cond.static yX3_coldWithBrine, Cond.code yX3_coldWithBrine cX3_coldWithBrine 5 (some .int), Cond.methodLink RX3 150 yX3_coldOfIce, Cond.static yX3_coldOfIce]
def wsL_law0_r7 : List Cond := [Cond.code yX3_coldOfIce cX3_coldOfIce 1 (some .int), Cond.methodLink RL 87 yX4_pack, Cond.instanceMethod yX4_pack, Cond.selects RX4 yX4_pack yX4_pack, Cond.code yX4_pack cX4_pack 4 (some .int), Cond.methodLink RX4 49 yX4_isChurn, Cond.instanceMethod yX4_isChurn, Cond.selects RX4 yX4_isChurn yX4_isChurn, Cond.code yX4_isChurn cX4_isChurn 2 (some .boolean), Cond.methodLink RX4 53 yX4_packed, Cond.instanceMethod yX4_packed, Cond.selects RX4 yX4_packed yX4_packed, Cond.code yX4_packed cX4_packed 4 (some .int), Cond.methodLink RX4 46 yX4_ch, Cond.instanceMethod yX4_ch, Cond.selects RX4 yX4_ch yX4_ch, Cond.code yX4_ch cX4_ch 3 (some .int), Cond.methodLink RX4 57 yX4_setChurn, Cond.instanceMethod yX4_setChurn, Cond.selects RX4 yX4_setChurn yX4_setChurn, Cond.code yX4_setChurn cX4_setChurn 4 none, Cond.methodLink RL 88 yL_pour, Cond.static yL_pour, Cond.codeWith yL_pour cL_pour 5 (some .int) [(0, 10, 13, 13), (0, 10, 17, 15), (0, 10, 21, 24)]]
def wsL_law0_r8 : List Cond := [Cond.methodLink RL 33 yX3_pour, Cond.instanceMethod yX3_pour, Cond.selects RX3 yX3_pour yX3_pour, Cond.code yX3_pour cX3_pour 4 (some .int), Cond.methodLink RX3 93 yX1_add, Cond.instanceMethod yX1_add, Cond.selects RX1 yX1_add yX1_add, Cond.code yX1_add cX1_add 3 none, Cond.fieldLink RX1 13 "ColdCreamery$Churn" "cream" "I", Cond.fieldLink RX1 16 "ColdCreamery$Churn" "firm" "I", Cond.methodLink RL 90 yX4_pour, Cond.instanceMethod yX4_pour, Cond.selects RX4 yX4_pour yX4_pour, Cond.code yX4_pour cX4_pour 4 (some .int), Cond.methodLink RL 91 yL_scoop, Cond.static yL_scoop, Cond.codeWith yL_scoop cL_scoop 5 (some .int) [(0, 10, 13, 13), (0, 10, 17, 24)], Cond.methodLink RL 36 yX3_scoop, Cond.instanceMethod yX3_scoop, Cond.selects RX3 yX3_scoop yX3_scoop, Cond.code yX3_scoop cX3_scoop 5 (some .int), Cond.methodLink RX3 99 yX3_existingTub, Cond.instanceMethod yX3_existingTub, Cond.selects RX3 yX3_existingTub yX3_existingTub]
def wsL_law0_r9 : List Cond := [Cond.code yX3_existingTub cX3_existingTub 2 (some (.object "ColdCreamery$Tub")), Cond.methodLink RX3 105 yX2_take, Cond.instanceMethod yX2_take, Cond.selects RX2 yX2_take yX2_take, Cond.code yX2_take cX2_take 3 none, Cond.fieldLink RX2 9 "ColdCreamery$Tub" "scoops" "I", Cond.methodLink RX2 21 Lib.Math.min.name, Cond.fieldLink RX2 15 "ColdCreamery$Tub" "soft" "I", Cond.methodLink RX2 27 Lib.Math.max.name, Cond.static Lib.Math.max.name, Cond.code Lib.Math.max.name Lib.Math.max.code 2 (some .int), Cond.methodLink RL 93 yX4_scoop, Cond.instanceMethod yX4_scoop, Cond.selects RX4 yX4_scoop yX4_scoop, Cond.code yX4_scoop cX4_scoop 3 (some .int), Cond.methodLink RX4 70 Lib.Math.max.name, Cond.methodLink RX4 61 yX4_isTub, Cond.instanceMethod yX4_isTub, Cond.selects RX4 yX4_isTub yX4_isTub, Cond.code yX4_isTub cX4_isTub 2 (some .boolean), Cond.methodLink RX4 64 yX4_tu, Cond.instanceMethod yX4_tu, Cond.selects RX4 yX4_tu yX4_tu, Cond.code yX4_tu cX4_tu 3 (some .int)]
def wsL_law0_r10 : List Cond := [Cond.methodLink RX4 67 yX4_setTub, Cond.instanceMethod yX4_setTub, Cond.selects RX4 yX4_setTub yX4_setTub, Cond.code yX4_setTub cX4_setTub 4 none, Cond.methodLink RL 94 yL_told, Cond.static yL_told, Cond.codeWith yL_told cL_told 5 (some .int) [(0, 10, 13, 13)], Cond.methodLink RL 39 yX3_told, Cond.instanceMethod yX3_told, Cond.selects RX3 yX3_told yX3_told, Cond.code yX3_told cX3_told 4 (some .int), Cond.methodLink RX3 116 yX1_number, Cond.instanceMethod yX1_number, Cond.selects RX1 yX1_number yX1_number, Cond.code yX1_number cX1_number 2 (some .int), Cond.fieldLink RX1 7 "ColdCreamery$Churn" "cold" "I", Cond.methodLink RL 96 yX4_told, Cond.instanceMethod yX4_told, Cond.selects RX4 yX4_told yX4_told, Cond.code yX4_told cX4_told 3 (some .int), Cond.methodLink RL 97 yL_about, Cond.static yL_about, Cond.codeWith yL_about cL_about 5 (some .int) [(0, 10, 13, 13)], Cond.methodLink RL 42 yX3_about]
def wsL_law0_r11 : List Cond := [Cond.instanceMethod yX3_about, Cond.selects RX3 yX3_about yX3_about, Cond.code yX3_about cX3_about 4 (some .int), Cond.methodLink RX3 120 yX2_number, Cond.instanceMethod yX2_number, Cond.selects RX2 yX2_number yX2_number, Cond.code yX2_number cX2_number 2 (some .int), Cond.fieldLink RX2 18 "ColdCreamery$Tub" "sold" "I", Cond.methodLink RL 99 yX4_about, Cond.instanceMethod yX4_about, Cond.selects RX4 yX4_about yX4_about, Cond.code yX4_about cX4_about 3 (some .int), Cond.methodLink RL 100 yL_count, Cond.static yL_count, Cond.codeWith yL_count cL_count 4 (some .int) [(0, 9, 12, 13)], Cond.methodLink RL 45 yX3_count, Cond.instanceMethod yX3_count, Cond.selects RX3 yX3_count yX3_count, Cond.code yX3_count cX3_count 2 (some .int), Cond.methodLink RX3 123 yX0_number, Cond.instanceMethod yX0_number, Cond.selects RX0 yX0_number yX0_number, Cond.code yX0_number cX0_number 2 (some .int), Cond.fieldLink RX0 41 "ColdCreamery$Cellar" "hour" "I"]
def wsL_law0_r12 : List Cond := [Cond.fieldLink RX0 49 "ColdCreamery$Cellar" "coins" "I", Cond.fieldLink RX0 59 "ColdCreamery$Cellar" "sentAway" "I", Cond.methodLink RX0 45 yX0_heatAt, Cond.instanceMethod yX0_heatAt, Cond.selects RX0 yX0_heatAt yX0_heatAt, Cond.code yX0_heatAt cX0_heatAt 2 (some .int), Cond.methodLink RX0 62 yJ9_floorMod_7cf53, Cond.static yJ9_floorMod_7cf53, Cond.initialized RJ9, Cond.code yJ9_floorMod_7cf53 cJ9_floorMod_7cf53 3 (some .int), Cond.methodLink RX0 52 yX0_scoopsInTubs, Cond.instanceMethod yX0_scoopsInTubs, Cond.selects RX0 yX0_scoopsInTubs yX0_scoopsInTubs, Cond.code yX0_scoopsInTubs cX0_scoopsInTubs 3 (some .int), Cond.fieldLink RX0 68 "ColdCreamery$Cellar" "tubCount" "I", Cond.methodLink RX0 56 yX0_soldScoops, Cond.instanceMethod yX0_soldScoops, Cond.selects RX0 yX0_soldScoops yX0_soldScoops, Cond.code yX0_soldScoops cX0_soldScoops 3 (some .int), Cond.methodLink RL 103 yX4_count, Cond.instanceMethod yX4_count, Cond.selects RX4 yX4_count yX4_count, Cond.code yX4_count cX4_count 2 (some .int), Cond.methodLink RX4 80 yX4_counted]
def wsL_law0_r13 : List Cond := [Cond.instanceMethod yX4_counted, Cond.selects RX4 yX4_counted yX4_counted, Cond.code yX4_counted cX4_counted 3 (some .int), Cond.methodLink RX4 73 yX4_heatNow, Cond.instanceMethod yX4_heatNow, Cond.selects RX4 yX4_heatNow yX4_heatNow, Cond.code yX4_heatNow cX4_heatNow 1 (some .int), Cond.methodLink RX4 77 yX4_sum, Cond.instanceMethod yX4_sum, Cond.selects RX4 yX4_sum yX4_sum, Cond.code yX4_sum cX4_sum 4 (some .int), Cond.methodLink RL 104 yX3_next, Cond.instanceMethod yX3_next, Cond.selects RX3 yX3_next yX3_next, Cond.code yX3_next cX3_next 1 (some .int), Cond.methodLink RX3 124 yX0_sellingTub, Cond.instanceMethod yX0_sellingTub, Cond.selects RX0 yX0_sellingTub yX0_sellingTub, Cond.code yX0_sellingTub cX0_sellingTub 4 (some .int), Cond.methodLink RL 107 yX4_next, Cond.instanceMethod yX4_next, Cond.selects RX4 yX4_next yX4_next, Cond.code yX4_next cX4_next 1 (some .int), Cond.methodLink RX4 83 yX4_nextTub]
def wsL_law0_r14 : List Cond := [Cond.instanceMethod yX4_nextTub, Cond.selects RX4 yX4_nextTub yX4_nextTub, Cond.code yX4_nextTub cX4_nextTub 3 (some .int), Cond.methodLink RL 108 yL_pass, Cond.static yL_pass, Cond.codeWith yL_pass cL_pass 4 (some .int) [(0, 9, 12, 15)], Cond.methodLink RL 49 yX3_pass, Cond.instanceMethod yX3_pass, Cond.selects RX3 yX3_pass yX3_pass, Cond.code yX3_pass cX3_pass 3 (some .int), Cond.methodLink RX3 128 yX3_checkHours, Cond.static yX3_checkHours, Cond.code yX3_checkHours cX3_checkHours 1 none, Cond.methodLink RX3 134 yX0_runHours, Cond.instanceMethod yX0_runHours, Cond.selects RX0 yX0_runHours yX0_runHours, Cond.code yX0_runHours cX0_runHours 3 none, Cond.methodLink RX0 80 yX0_runHour, Cond.instanceMethod yX0_runHour, Cond.selects RX0 yX0_runHour yX0_runHour, Cond.code yX0_runHour cX0_runHour 3 none, Cond.fieldLink RX0 83 "ColdCreamery$Cellar" "churnCount" "I", Cond.methodLink RX0 86 yX1_turn, Cond.instanceMethod yX1_turn]
def wsL_law0_r15 : List Cond := [Cond.selects RX1 yX1_turn yX1_turn, Cond.code yX1_turn cX1_turn 2 none, Cond.static yX3_firmAfterHour, Cond.code yX3_firmAfterHour cX3_firmAfterHour 2 (some .int), Cond.static yX3_coldAfterHour, Cond.code yX3_coldAfterHour cX3_coldAfterHour 2 (some .int), Cond.methodLink RX3 153 Lib.Math.max.name, Cond.methodLink RX0 90 yX2_standInHeat, Cond.instanceMethod yX2_standInHeat, Cond.selects RX2 yX2_standInHeat yX2_standInHeat, Cond.code yX2_standInHeat cX2_standInHeat 3 none, Cond.methodLink RX0 94 yX0_servePeople, Cond.instanceMethod yX0_servePeople, Cond.selects RX0 yX0_servePeople yX0_servePeople, Cond.code yX0_servePeople cX0_servePeople 5 none, Cond.methodLink RX0 104 yX0_serveOne, Cond.instanceMethod yX0_serveOne, Cond.selects RX0 yX0_serveOne yX0_serveOne, Cond.code yX0_serveOne cX0_serveOne 2 none, Cond.methodLink RX0 107 yX0_sellingTub, Cond.methodLink RX0 110 yX2_sellScoop, Cond.instanceMethod yX2_sellScoop, Cond.selects RX2 yX2_sellScoop yX2_sellScoop, Cond.code yX2_sellScoop cX2_sellScoop 1 (some .int)]
def wsL_law0_r16 : List Cond := [Cond.static yX3_iceAfterHour, Cond.code yX3_iceAfterHour cX3_iceAfterHour 3 (some .int), Cond.methodLink RX0 101 yX2_forgetSoftnessIfEmpty, Cond.instanceMethod yX2_forgetSoftnessIfEmpty, Cond.selects RX2 yX2_forgetSoftnessIfEmpty yX2_forgetSoftnessIfEmpty, Cond.code yX2_forgetSoftnessIfEmpty cX2_forgetSoftnessIfEmpty 1 none, Cond.methodLink RL 110 yX4_pass, Cond.instanceMethod yX4_pass, Cond.selects RX4 yX4_pass yX4_pass, Cond.code yX4_pass cX4_pass 4 (some .int), Cond.methodLink RX4 96 yX4_hourOn, Cond.instanceMethod yX4_hourOn, Cond.selects RX4 yX4_hourOn yX4_hourOn, Cond.code yX4_hourOn cX4_hourOn 3 none, Cond.methodLink RX4 86 yX4_firmUp, Cond.instanceMethod yX4_firmUp, Cond.selects RX4 yX4_firmUp yX4_firmUp, Cond.code yX4_firmUp cX4_firmUp 3 none, Cond.methodLink RX4 90 yX4_soften, Cond.instanceMethod yX4_soften, Cond.selects RX4 yX4_soften yX4_soften, Cond.code yX4_soften cX4_soften 4 none, Cond.methodLink RX4 93 yX4_sell, Cond.instanceMethod yX4_sell]
def wsL_law0_r17 : List Cond := [Cond.selects RX4 yX4_sell yX4_sell, Cond.code yX4_sell cX4_sell 2 none, Cond.methodLink RL 111 yL_done, Cond.static yL_done, Cond.codeWith yL_done cL_done 4 (some .int) [(0, 9, 12, 13)], Cond.methodLink RL 52 yX3_done, Cond.instanceMethod yX3_done, Cond.selects RX3 yX3_done yX3_done, Cond.code yX3_done cX3_done 2 (some .int), Cond.methodLink RX3 137 yX0_hoursUntilFirm, Cond.instanceMethod yX0_hoursUntilFirm, Cond.selects RX0 yX0_hoursUntilFirm yX0_hoursUntilFirm, Cond.code yX0_hoursUntilFirm cX0_hoursUntilFirm 5 (some .int), Cond.methodLink RL 113 yX4_done, Cond.instanceMethod yX4_done, Cond.selects RX4 yX4_done yX4_done, Cond.code yX4_done cX4_done 4 (some .int), Cond.methodLink RX4 105 yX4_keep, Cond.instanceMethod yX4_keep, Cond.selects RX4 yX4_keep yX4_keep, Cond.code yX4_keep cX4_keep 1 none, Cond.methodLink RX4 99 arraycopyName, Cond.native arraycopyName, Cond.static arraycopyName]
def wsL_law0_r18 : List Cond := [Cond.initialized "java/lang/System", Cond.methodLink RX4 108 yX4_bringBack, Cond.instanceMethod yX4_bringBack, Cond.selects RX4 yX4_bringBack yX4_bringBack, Cond.code yX4_bringBack cX4_bringBack 1 none, Cond.methodLink RL 114 yL_foresee, Cond.static yL_foresee, Cond.codeWith yL_foresee cL_foresee 5 (some .int) [(0, 10, 13, 15), (0, 10, 17, 13)], Cond.methodLink RL 55 yX3_foresee, Cond.instanceMethod yX3_foresee, Cond.selects RX3 yX3_foresee yX3_foresee, Cond.code yX3_foresee cX3_foresee 3 (some .int), Cond.methodLink RX3 143 yX0_copyFrom, Cond.instanceMethod yX0_copyFrom, Cond.selects RX0 yX0_copyFrom yX0_copyFrom, Cond.code yX0_copyFrom cX0_copyFrom 3 none, Cond.methodLink RX0 128 arraycopyName, Cond.methodLink RX0 134 yX1_copyFrom, Cond.instanceMethod yX1_copyFrom, Cond.selects RX1 yX1_copyFrom yX1_copyFrom, Cond.code yX1_copyFrom cX1_copyFrom 2 none, Cond.methodLink RX0 138 yX2_copyFrom, Cond.instanceMethod yX2_copyFrom, Cond.selects RX2 yX2_copyFrom yX2_copyFrom]
def wsL_law0_r19 : List Cond := [Cond.code yX2_copyFrom cX2_copyFrom 2 none, Cond.methodLink RL 116 yX4_foresee, Cond.instanceMethod yX4_foresee, Cond.selects RX4 yX4_foresee yX4_foresee, Cond.code yX4_foresee cX4_foresee 4 (some .int), Cond.methodLink RL 117 yX3_lasts, Cond.instanceMethod yX3_lasts, Cond.selects RX3 yX3_lasts yX3_lasts, Cond.code yX3_lasts cX3_lasts 1 (some .int), Cond.methodLink RX3 147 yX0_hoursUntilNoIce, Cond.instanceMethod yX0_hoursUntilNoIce, Cond.selects RX0 yX0_hoursUntilNoIce yX0_hoursUntilNoIce, Cond.code yX0_hoursUntilNoIce cX0_hoursUntilNoIce 3 (some .int), Cond.methodLink RL 120 yX4_lasts, Cond.instanceMethod yX4_lasts, Cond.selects RX4 yX4_lasts yX4_lasts, Cond.code yX4_lasts cX4_lasts 3 (some .int), Cond.methodLink RL 121 yL_salt, Cond.static yL_salt, Cond.codeWith yL_salt cL_salt 5 (some .int) [(0, 10, 13, 13), (0, 10, 17, 15)], Cond.methodLink RL 58 yX3_salt, Cond.instanceMethod yX3_salt, Cond.selects RX3 yX3_salt yX3_salt, Cond.code yX3_salt cX3_salt 6 (some .int)]
def wsL_law0_r20 : List Cond := [Cond.methodLink RL 123 yX4_salt, Cond.instanceMethod yX4_salt, Cond.selects RX4 yX4_salt yX4_salt, Cond.code yX4_salt cX4_salt 5 (some .int), Cond.methodLink RL 124 yX3_share, Cond.instanceMethod yX3_share, Cond.selects RX3 yX3_share yX3_share, Cond.code yX3_share cX3_share 3 (some .double), Cond.methodLink RX3 156 yX0_soldScoops, Cond.methodLink RL 128 yX4_share, Cond.instanceMethod yX4_share, Cond.selects RX4 yX4_share yX4_share, Cond.code yX4_share cX4_share 2 (some .double), Cond.methodLink RL 129 yX3_digest, Cond.instanceMethod yX3_digest, Cond.selects RX3 yX3_digest yX3_digest, Cond.code yX3_digest cX3_digest 5 (some .long), Cond.constantLong RX3 162 (1103), Cond.methodLink RX3 164 yX3_mixed, Cond.static yX3_mixed, Cond.code yX3_mixed cX3_mixed 4 (some .long), Cond.constantLong RX3 184 (31), Cond.methodLink RL 133 yX4_digest, Cond.instanceMethod yX4_digest]
def wsL_law0_r21 : List Cond := [Cond.selects RX4 yX4_digest yX4_digest, Cond.code yX4_digest cX4_digest 4 (some .long), Cond.constantLong RX4 111 (1103), Cond.constantLong RX4 113 (31)]
def wsL_law0 : List Cond := (wsL_law0_r1 ++ (wsL_law0_r2 ++ (wsL_law0_r3 ++ (wsL_law0_r4 ++ (wsL_law0_r5 ++ (wsL_law0_r6 ++ (wsL_law0_r7 ++ (wsL_law0_r8 ++ (wsL_law0_r9 ++ (wsL_law0_r10 ++ (wsL_law0_r11 ++ (wsL_law0_r12 ++ (wsL_law0_r13 ++ (wsL_law0_r14 ++ (wsL_law0_r15 ++ (wsL_law0_r16 ++ (wsL_law0_r17 ++ (wsL_law0_r18 ++ (wsL_law0_r19 ++ (wsL_law0_r20 ++ wsL_law0_r21)))))))))))))))))))) ++ wsX30 ++ wsX40 ++ wsX00 ++ wsX10 ++ wsX20 ++ ([] : List Cond)
def wsL_law : List Cond := wsL_law0 ++ (vx_atS RX3 23 "java/lang/IndexOutOfBoundsException" ["java/lang/RuntimeException", "java/lang/Exception"]).filter goodWord ++ (vx_atS RX3 30 "java/lang/IllegalArgumentException" ["java/lang/RuntimeException", "java/lang/Exception"]).filter goodWord ++ (vx_atS RX3 59 "java/lang/IllegalStateException" ["java/lang/RuntimeException", "java/lang/Exception"]).filter goodWord
abbrev vwCl : List vw_C := [(RX0, TX0, 9), (RX1, TX1, 3), (RX2, TX2, 3), (RX3, TX3, 2), (RX4, TX4, 6)]
end
section
/-! my own layer: contracts with one outcome over the class's and the reference's worlds -/
abbrev TY (cI cC cT cL : ClassId) : List (ClassId × FieldType) := [(cI, .int), (cC, .object RX1), (cT, .object RX2), (cL, .long)]
/-- words of nest mates -/
def NF : List (String × Nat × String × String × String) := [(RX3, 75, RX1, "cold", "I"), (RX0, 119, RX1, "cold", "I"), (RX3, 88, RX1, "cream", "I"), (RX0, 113, RX1, "cream", "I"), (RX3, 96, RX1, "firm", "I"), (RX0, 116, RX1, "firm", "I"), (RX0, 71, RX2, "scoops", "I"), (RX3, 111, RX2, "scoops", "I"), (RX0, 77, RX2, "soft", "I"), (RX0, 74, RX2, "sold", "I"), (RX3, 31, RX0, "stock", "[I"), (RX3, 48, RX0, "heats", "[I"), (RX3, 168, RX0, "churns", "[LColdCreamery$Churn;"), (RX3, 172, RX0, "tubs", "[LColdCreamery$Tub;"), (RX3, 51, RX0, "churnCount", "I"), (RX3, 60, RX0, "tubCount", "I"), (RX3, 131, RX0, "coins", "I"), (RX3, 159, RX0, "sentAway", "I"), (RX0, 9, RX3, "STOCK_LIMITS", "[I")]
def NM : List (String × Nat × MethodName) := [(RX0, 39, yX1_init), (RX0, 40, yX2_init), (RX0, 97, yX3_iceAfterHour), (RX1, 19, yX3_firmAfterHour), (RX1, 25, yX3_coldAfterHour), (RX0, 122, yX3_firmAfterHour), (RX0, 125, yX3_coldAfterHour)]
abbrev IOOBE : String := "java/lang/IndexOutOfBoundsException"
abbrev IAE : String := "java/lang/IllegalArgumentException"
abbrev ISE : String := "java/lang/IllegalStateException"
def STR : List (Nat × String) := [(21, "what is 0 to 3"), (28, "many is 1 to 300"), (44, "day is 0 to 6"), (46, "heat is 0 to 40"), (57, "there are 4 churns"), (63, "there are 6 tubs"), (176, "there is no such churn"), (180, "ice and salt are 0 to 60"), (73, "there is not so much in the cellar"), (84, "cream is 1 to 20"), (86, "there is not so much cream in the cellar"), (178, "there is no such tub"), (103, "the churn holds no firm cream"), (114, "what is 0 to 2"), (121, "what is 0 to 9"), (182, "hours is 1 to 168"), (141, "what is 2, 6, 7, 8 or 9")]
def NC : List (String × String) := [(IOOBE, IAE), (IOOBE, ISE), (IAE, IOOBE), (IAE, ISE), (ISE, IOOBE), (ISE, IAE)]
def CA : List String := [IOOBE, IAE, ISE]
def DC : List MethodName := [Bundle.initS "java/lang/RuntimeException", Bundle.initS "java/lang/Exception", Bundle.initS Bundle.tN]
abbrev XN : List String := ["java/lang/RuntimeException", "java/lang/Exception"]
def limF (j : Nat) : Int32 := if j = 0 then 900 else 300
def mostF (j : Nat) : Int32 := if j = 0 then 0 else if j = 1 then 900 else 300
/-- what every method may take of the tables and statics: nothing that anybody writes -/
def ST (A : Nat → Prop) (U : State) : Prop :=
  (∀ x ∈ NF, va_Nw (.fieldLinkNest x.1 x.2.1 x.2.2.1 x.2.2.2.1 x.2.2.2.2 RX3) U) ∧ (∀ x ∈ NM, va_Nw (.methodLinkNest x.1 x.2.1 x.2.2 RX3) U) ∧
  (∀ q ∈ STR, ∃ a, vk_R RX3 q.1 q.2 a U) ∧ (∀ q ∈ NC, va_Nc q.1 q.2 U) ∧ (∀ q ∈ CA, va_Nw (.castable q q) U) ∧ (∀ x ∈ DC, va_Nw (.declares x) U) ∧
  vx_Zq Bundle.tN "UNASSIGNED_STACK" Bundle.steD A U U.heap ∧ vx_Zq Bundle.tN "SUPPRESSED_SENTINEL" Bundle.listD A U U.heap ∧
  (∃ t, va_Z RX3 "STOCK_LIMITS" "[I" (.ref t) A U U.heap ∧ va_T .int t 4 (fun j => .int (limF j)) A U U.heap) ∧
  (∃ t, va_Z RX4 "MOST" "[I" (.ref t) A U U.heap ∧ va_T .int t 5 (fun j => .int (mostF j)) A U U.heap) ∧ va_AO RX1 U ∧ va_AO RX2 U
theorem ST.call {A B : Nat → Prop} {s U : State} {H : Heap} {locs : List Loc} (h : ST A s) (hS : va_S A s.heap H locs) (hW : s.WarmedH U.vm) (hU : U.heap = H) (hB : ∀ q, B q → A q) : ST B U := by
  obtain ⟨h1, h2, h3, h4, h5, h5d, h6, h7, ⟨t8, h8, h9⟩, ⟨t10, h10, h11⟩, h12, h13⟩ := h
  have hk : ∀ a : Nat, a < s.heap.size → ¬ A a → U.heap[a]? = s.heap[a]? := by rw [hU]; exact hS.2.1
  refine ⟨fun x hx => va_Nw.warmF hW (h1 x hx), fun x hx => va_Nw.warmM hW (h2 x hx), fun q hq => ?_, fun q hq => va_Nc.moved hW.alike (h4 q hq), fun q hq => va_Nw.warmC hW (h5 q hq), fun x hx => va_Nw.warmD hW (h5d x hx),
    ((h6.kept hk).moved hW.alike).narrow hB, ((h7.kept hk).moved hW.alike).narrow hB, ⟨t8, ((h8.kept hk).moved hW.alike).narrow hB, ((h9.kept hk).moved hW.alike).narrow hB⟩, ⟨t10, ((h10.kept hk).moved hW.alike).narrow hB, ((h11.kept hk).moved hW.alike).narrow hB⟩, h12.moved hW.alike, h13.moved hW.alike⟩
  obtain ⟨a, ha⟩ := h3 q hq
  exact ⟨a, ha.warm hW⟩
/-! where a callee's world lies in the caller's -/
theorem dn_of {A : Nat → Prop} {ws : va_W} (h : va_D A ws) : (ws.map (fun q => q.1)).Nodup ∧ ∀ q ∈ ws, A q.1 := by
  refine ⟨?_, fun q hq => ?_⟩
  · refine List.pairwise_iff_getElem.mpr (fun i j hi hj hij he => ?_)
    rw [List.length_map] at hi hj
    rw [List.getElem_map, List.getElem_map] at he
    have h1 := h.1 i j _ _ (List.getElem?_eq_getElem hi) (List.getElem?_eq_getElem hj) he
    omega
  · obtain ⟨k, hk⟩ := List.getElem?_of_mem hq
    exact h.2 k q hk
theorem dn_to {A : Nat → Prop} {ws : va_W} (h1 : (ws.map (fun q => q.1)).Nodup) (h2 : ∀ q ∈ ws, A q.1) : va_D A ws := by
  refine ⟨fun i j p q hi hj he => ?_, fun k q hk => h2 q (List.mem_of_getElem? hk)⟩
  have e : ∀ i, (ws.map (fun q : Nat × va_E => q.1))[i]? = (ws[i]?).map (fun q : Nat × va_E => q.1) := fun i => List.getElem?_map ..
  have hi' := (List.getElem?_eq_some_iff.mp hi).1
  exact (List.getElem?_inj (by rw [List.length_map]; exact hi') h1).mp (by rw [e, e, hi, hj]; exact congrArg some he)
def Jn (ws wc w1 ws' : va_W) : Prop :=
  (∀ q ∈ wc, q ∈ ws) ∧ (∀ A, va_D A ws → va_D A wc) ∧ (∀ A, va_D A ws → va_D A ws') ∧ (∀ A, va_D A ws → ∀ q ∈ ws', q ∈ w1 ∨ (q ∈ ws ∧ ∀ p ∈ wc, p.1 ≠ q.1))
theorem Jn_mid (L wc w1 R : va_W) (h : w1.map (fun q => q.1) = wc.map (fun q => q.1)) : Jn (L ++ (wc ++ R)) wc w1 (L ++ (w1 ++ R)) := by
  refine ⟨fun q hq => by simp [hq], fun A hD => ?_, fun A hD => ?_, fun A hD q hq => ?_⟩
  · obtain ⟨h1, h2⟩ := dn_of hD
    simp only [List.map_append, List.nodup_append] at h1
    exact dn_to h1.2.1.1 (fun q hq => h2 q (by simp [hq]))
  · obtain ⟨h1, h2⟩ := dn_of hD
    refine dn_to ?_ (fun q hq => ?_)
    · simp only [List.map_append] at h1 ⊢
      rw [h]; exact h1
    · simp only [List.mem_append] at hq
      rcases hq with hq | hq | hq
      · exact h2 q (by simp [hq])
      · have : q.1 ∈ wc.map (fun q => q.1) := by rw [← h]; exact List.mem_map.mpr ⟨q, hq, rfl⟩
        obtain ⟨p, hp, hpq⟩ := List.mem_map.mp this
        rw [← hpq]; exact h2 p (by simp [hp])
      · exact h2 q (by simp [hq])
  · obtain ⟨h1, h2⟩ := dn_of hD
    simp only [List.map_append, List.nodup_append] at h1
    simp only [List.mem_append] at hq
    rcases hq with hq | hq | hq
    · refine Or.inr ⟨by simp [hq], fun p hp he => ?_⟩
      exact h1.2.2 q.1 (List.mem_map.mpr ⟨q, hq, rfl⟩) p.1 (List.mem_append_left _ (List.mem_map.mpr ⟨p, hp, rfl⟩)) he.symm
    · exact Or.inl hq
    · refine Or.inr ⟨by simp [hq], fun p hp he => ?_⟩
      exact h1.2.1.2.2 p.1 (List.mem_map.mpr ⟨p, hp, rfl⟩) q.1 (List.mem_map.mpr ⟨q, hq, rfl⟩) he
theorem Jn_all (ws w1 : va_W) (h : w1.map (fun q => q.1) = ws.map (fun q => q.1)) : Jn ws ws w1 w1 := by
  have := Jn_mid [] ws w1 [] h
  simpa using this
theorem Jn_nil (ws : va_W) : Jn ws [] [] ws := by
  refine ⟨fun q hq => by simp at hq, fun A hD => dn_to (by simp) (by simp), fun A h => h, fun A hD q hq => Or.inr ⟨hq, fun p hp => by simp at hp⟩⟩
theorem Jn_set {ws : va_W} (k a : Nat) (e e' : va_E) (h : ws[k]? = some (a, e)) : Jn ws [(a, e)] [(a, e')] (ws.set k (a, e')) := by
  refine ⟨fun q hq => ?_, fun A hD => ?_, fun A hD => hD.set h, fun A hD q hq => ?_⟩
  · rw [List.mem_singleton.mp hq]; exact List.mem_of_getElem? h
  · exact dn_to (by simp) (fun q hq => by rw [List.mem_singleton.mp hq]; exact hD.2 k _ h)
  · obtain ⟨j, hj⟩ := List.getElem?_of_mem hq
    by_cases hjk : j = k
    · subst hjk
      rw [List.getElem?_set_self (List.getElem?_eq_some_iff.mp h).1] at hj
      cases hj
      exact Or.inl (List.mem_singleton.mpr rfl)
    · rw [List.getElem?_set_ne (Ne.symm hjk)] at hj
      refine Or.inr ⟨List.mem_of_getElem? hj, fun p hp he => ?_⟩
      rw [List.mem_singleton.mp hp] at he
      exact hjk (hD.1 k j _ _ h hj he).symm
theorem Jn.P {D : va_G} {ws wc w1 ws' : va_W} {A : Nat → Prop} {H H1 : Heap} (J : Jn ws wc w1 ws') (hP : va_P D vwCl ws H) (hD : va_D A ws) (hP1 : va_P D vwCl w1 H1) (hk : ∀ q : Nat, q < H.size → ¬ va_A wc H.size q → H1[q]? = H[q]?) : va_P D vwCl ws' H1 := by
  intro k q hq
  rcases J.2.2.2 A hD q (List.mem_of_getElem? hq) with h | ⟨h, hn⟩
  · obtain ⟨j, hj⟩ := List.getElem?_of_mem h
    exact hP1 j q hj
  · obtain ⟨j, hj⟩ := List.getElem?_of_mem h
    have hl := (hP j q hj).lt
    refine (hP j q hj).kept (hk q.1 hl ?_)
    rintro (⟨i, e, hi⟩ | hi)
    · exact hn (q.1, e) (List.mem_of_getElem? hi) rfl
    · omega
theorem Jn.sub {D : va_G} {ws wc w1 ws' : va_W} {H : Heap} (J : Jn ws wc w1 ws') (hP : va_P D vwCl ws H) : va_P D vwCl wc H := by
  intro k q hq
  obtain ⟨j, hj⟩ := List.getElem?_of_mem (J.1 q (List.mem_of_getElem? hq))
  exact hP j q hj
theorem Jn.free {ws wc w1 ws' : va_W} {A : Nat → Prop} {H0 H : Heap} {locs : List Loc} (J : Jn ws wc w1 ws') (hD : va_D A ws) (hS : va_S A H0 H locs) (hA : ∀ q, H0.size ≤ q → A q) : ∀ q, va_A wc H.size q → A q := by
  rintro q (⟨k, e, hk⟩ | hk)
  · exact (dn_of hD).2 (q, e) (J.1 _ (List.mem_of_getElem? hk))
  · exact hA q (Nat.le_trans hS.1 hk)
/-! contracts -/
def Qd (D : va_G) (o : Option Value) (w1 : va_W) (A : Nat → Prop) : Array Value → State → Outcome → State → Prop := fun _ st oc t => oc = .returned o ∧ va_P D vwCl w1 t.heap ∧ va_F A st t
def Xd (D : va_G) (px : String → Prop) (wc : va_W) (A : Nat → Prop) : String → State → State → Prop := fun E st t => px E ∧ va_P D vwCl wc t.heap ∧ va_F A st t
def Pd (D : va_G) (tys : List (ClassId × FieldType)) (av : List Value) (wc : va_W) (sz : Nat) : Array Value → State → Prop := va_Pc av (fun U => U.heap.size = sz ∧ va_P D vwCl wc U.heap ∧ va_K D vwCl tys U ∧ va_D (fun _ => True) wc ∧ ST (va_A wc sz) U)
def M0 (l : Launch) (y : MethodName) (ws : List Cond) (rm : Room) (D : va_G) (tys : List (ClassId × FieldType)) (av : List Value) (wc : va_W) (o : Option Value) (w1 : va_W) (mc ms : Nat) : Prop := ∀ sz : Nat, Met l y ws rm (Pd D tys av wc sz) (Qd D o w1 (va_A wc sz)) mc ms (va_A wc sz)
def M1 (l : Launch) (y : MethodName) (ws : List Cond) (rm : Room) (D : va_G) (tys : List (ClassId × FieldType)) (av : List Value) (wc : va_W) (ok : Prop) (o : Option Value) (w1 : va_W) (px : String → Prop) (mc ms : Nat) : Prop := ∀ sz : Nat, vx_Met l y ws rm (Pd D tys av wc sz) (fun a st oc t => ok ∧ Qd D o w1 (va_A wc sz) a st oc t) (Xd D px wc (va_A wc sz)) mc ms (va_A wc sz)
def Q0 (below : List Frame) (D : va_G) (o : Option Value) (w1 : va_W) (A : Nat → Prop) (args : Array Value) (s : State) (mc ms : Nat) : State → Prop := MQ below (Qd D o w1 A) args s mc ms A
def Q1 (below : List Frame) (D : va_G) (ok : Prop) (o : Option Value) (w1 : va_W) (px : String → Prop) (wc : va_W) (A : Nat → Prop) (args : Array Value) (s : State) (mc ms : Nat) : State → Prop := vx_MQ below (fun a st oc t => ok ∧ Qd D o w1 A a st oc t) (Xd D px wc A) args s mc ms A
/-- what a body has at hand -/
def Bd (p : Program) (s : State) (m : MethodId) (meth : Method) (c : Code) (y : MethodName) (cc : ByteArray) (maxL : Nat) (ret : Option FieldType) (args : Array Value) (ws : List Cond) (D : va_G) (tys : List (ClassId × FieldType)) (A : Nat → Prop) (wc : va_W) : Prop :=
  p.tables.exec = Jvm.exec ∧ c.code = cc ∧ c.maxLocals = maxL ∧ meth.sig.returnType = ret ∧ s.vm.findClass y.cls = some m.cls ∧ (∀ w ∈ ws, w.before args s = true) ∧ meth.locks = false ∧ va_K D vwCl tys s ∧ va_P D vwCl wc s.heap ∧ va_D A wc ∧ (∀ q : Nat, s.heap.size ≤ q → A q) ∧ ST A s ∧ meth.name = y.name
theorem M0_of {l : Launch} {y : MethodName} {ws ws' : List Cond} {rm : Room} {D : va_G} {tys : List (ClassId × FieldType)} {av : List Value} {wc : va_W} {o : Option Value} {w1 : va_W} {mc ms : Nat} {cc : ByteArray} {maxL : Nat} {ret : Option FieldType} (hy : plainName y.cls = true) (hw : ws = .code y cc maxL ret :: ws') (hlen : (lg_sl av).length ≤ maxL)
    (body : ∀ p e s m args below meth c A, Bd p s m meth c y cc maxL ret args ws D tys A wc → ∀ ls, lv_has ls maxL (lv_args 0 av) → W p l e rm s m args below meth c s.heap [] 0 0 (Q0 below D o w1 A args s mc ms) (F0 m 0 ls [])) : M0 l y ws rm D tys av wc o w1 mc ms := by
  intro sz
  refine Met.ofW (cc := cc) (maxL := maxL) (ret := ret) hy hw ?_
  intro p e s m args below meth c s₁ B hml hv
  obtain ⟨rfl, hsz, hP, hK, hD0, hST⟩ := hv
  subst hsz
  have h := body p e s m av.toArray below meth c (va_A wc s.heap.size) ⟨B.exec, B.bytes, hml, B.returns, findClass_of_methodNamed B.named, atoms_spec (ws := ws) B.pre, B.notSynchronized, hK, hP, hD0.self (sz := s.heap.size), fun q h => Or.inr h, hST, (name_of_methodNamed B.named B.method).1⟩ _ (lv_entry av hlen)
  rw [lg_entry_eq]
  exact h
theorem M1_of {l : Launch} {y : MethodName} {ws ws' : List Cond} {rm : Room} {D : va_G} {tys : List (ClassId × FieldType)} {av : List Value} {wc : va_W} {ok : Prop} {o : Option Value} {w1 : va_W} {px : String → Prop} {mc ms : Nat} {cc : ByteArray} {maxL : Nat} {ret : Option FieldType} (hy : plainName y.cls = true) (hw : ws = .code y cc maxL ret :: ws') (hlen : (lg_sl av).length ≤ maxL)
    (body : ∀ p e s m args below meth c A, Bd p s m meth c y cc maxL ret args ws D tys A wc → (∀ x ∈ c.exceptionTable.toList, False) → ∀ ls, lv_has ls maxL (lv_args 0 av) → W p l e rm s m args below meth c s.heap [] 0 0 (Q1 below D ok o w1 px wc A args s mc ms) (F0 m 0 ls [])) : M1 l y ws rm D tys av wc ok o w1 px mc ms := by
  intro sz
  refine vx_ofW (cc := cc) (maxL := maxL) (ret := ret) hy hw ?_
  intro p e s m args below meth c s₁ B hml htab hv
  obtain ⟨rfl, hsz, hP, hK, hD0, hST⟩ := hv
  subst hsz
  have h := body p e s m av.toArray below meth c (va_A wc s.heap.size) ⟨B.exec, B.bytes, hml, B.returns, findClass_of_methodNamed B.named, atoms_spec (ws := ws) B.pre, B.notSynchronized, hK, hP, hD0.self (sz := s.heap.size), fun q h => Or.inr h, hST, (name_of_methodNamed B.named B.method).1⟩ htab _ (lv_entry av hlen)
  rw [lg_entry_eq]
  exact h

section KC
variable {p : Program} {l : Launch} {e : Env} {R : Room} {s : State} {m : MethodId} {args : Array Value} {below : List Frame} {meth : Method} {c : Code} {H : Heap} {locs : List Loc} {cells slots : Nat} {Q : State → Prop}
variable {y : MethodName} {bytes cc : ByteArray} {maxL nL mc ms n index pc : Nat} {ret : Option FieldType} {wsY Ts : List Cond} {rm : Room} {own C host : String} {b : Addr} {As rest st0 st1 av : List Value} {ls : Array Slot}
variable {D : va_G} {tys : List (ClassId × FieldType)} {ws wc w1 ws' : va_W} {o : Option Value} {A : Nat → Prop} {ok : Prop} {px : String → Prop}
theorem pd_blind {sz : Nat} : FrameBlind (Pd D tys av wc sz) := fun a U g mk h => by
  obtain ⟨h1, h2, h3, h4, h5, h6⟩ := h
  refine ⟨h1, h2, h3, va_K.moved (u := U) (U := U.calling g mk a) (Vm.Alike.refl U.vm) h4, h5, ?_⟩
  exact h6
theorem pd_at (hK : va_K D vwCl tys s) (hP : va_P D vwCl ws H) (hD : va_D A ws) (hS : va_S A s.heap H locs) (hA : ∀ q : Nat, s.heap.size ≤ q → A q) (hST : ST A s) (J : Jn ws wc w1 ws') : ∀ U : State, U.heap = H → s.WarmedH U.vm → Pd D tys av wc H.size av.toArray U := fun U hU hW => by
  refine ⟨rfl, by rw [hU], by rw [hU]; exact J.sub hP, va_K.moved hW.alike hK, (J.2.1 A hD).weaken (fun _ _ _ _ => trivial), ?_⟩
  exact hST.call hS hW hU (J.free hD hS hA)
theorem c0_go {a : Array Value} (hr : va_Run p l e R s m args below meth c H locs cells slots mc ms (F0 m pc ls st0) rest (Qd D o w1 (va_A wc H.size) a) (va_A wc H.size)) (hP : va_P D vwCl ws H) (hD : va_D A ws) (hS : va_S A s.heap H locs) (hA : ∀ q : Nat, s.heap.size ≤ q → A q) (J : Jn ws wc w1 ws') (hst : o.toList ++ rest = st1)
    (kk : ∀ (H1 : Heap) (locs1 : List Loc), va_P D vwCl ws' H1 → va_D A ws' → va_S A s.heap H1 locs1 → W p l e R s m args below meth c H1 locs1 (cells + mc) (slots + ms) Q (F0 m (pc + 3) ls st1)) : W p l e R s m args below meth c H locs cells slots Q (F0 m pc ls st0) := by
  intro T hT X
  obtain ⟨v, st₀, t, T', L, h0, X', hL, e1, e2, ⟨hv, hP1, hz, hk⟩, st⟩ := hr T hT X
  cases hv
  rw [h0] at hz hk
  have hF := J.free hD hS hA
  obtain ⟨t2, a1, b1⟩ := kk T'.heap (locs ++ L) (J.P hP hD (by rw [e1]; exact hP1) (fun q h1 h2 => by rw [e1]; exact hk q h1 h2)) (J.2.2.1 A hD)
    ⟨Nat.le_trans hS.1 (by rw [e1]; exact hz), fun q h1 h2 => by rw [e1, hk q (Nat.lt_of_lt_of_le h1 hS.1) (fun z => h2 (hF q z))]; exact hS.2.1 q h1 h2, fun q hq => by
      rcases List.mem_append.mp hq with h | h
      · exact hS.2.2 q h
      · exact hF _ (hL q h)⟩ T' rfl X'
  rw [← hst] at a1
  exact ⟨t2, st t2 a1, b1⟩
theorem c0_V (S : CallFix p m c cc nL s args Ts own) (hM : M0 l y wsY rm D tys (.ref b :: As) wc o w1 mc ms) (cw : CallW R s args own C index y bytes maxL ret wsY rm mc ms n) (hK : va_K D vwCl tys s) (hP : va_P D vwCl ws H) (hD : va_D A ws) (hS : va_S A s.heap H locs) (hA : ∀ q : Nat, s.heap.size ≤ q → A q) (hST : ST A s) (J : Jn ws wc w1 ws')
    (k0 : Nat) {ci : Nat} {q : vw_C} {fs : List Value} (hk0 : wc[k0]? = some (b, .inr (ci, fs))) (hci : vwCl[ci]? = some q) (hq : q.1 = C) (hn : As.length = n) (hsize : ls.size = nL) (hstack : st0 = As.reverse ++ .ref b :: rest) (hW : (rest.map fun v => v.category).sum ≤ 8) (hdg : decode cc pc = .ok (.invokevirtual index, 3)) (hf : cells + mc ≤ R.cells ∧ slots + ms ≤ R.slots) (hst : o.toList ++ rest = st1)
    (kk : ∀ (H1 : Heap) (locs1 : List Loc), va_P D vwCl ws' H1 → va_D A ws' → va_S A s.heap H1 locs1 → W p l e R s m args below meth c H1 locs1 (cells + mc) (slots + ms) Q (F0 m (pc + 3) ls st1)) : W p l e R s m args below meth c H locs cells slots Q (F0 m pc ls st0) := by
  subst hq
  exact c0_go (va_runV S (hM H.size) cw ⟨pd_blind, va_recv hK (J.sub hP) hci hk0, pd_at hK hP hD hS hA hST J⟩ rfl hn hsize hstack (lv_room hW) hdg hf) hP hD hS hA J hst kk
theorem c0_S (S : CallFix p m c cc nL s args Ts own) (hM : M0 l y wsY rm D tys As wc o w1 mc ms) (cw : CallB R s args own index y bytes maxL ret wsY rm mc ms n ∧ (Cond.static y).before args s = true) (hK : va_K D vwCl tys s) (hP : va_P D vwCl ws H) (hD : va_D A ws) (hS : va_S A s.heap H locs) (hA : ∀ q : Nat, s.heap.size ≤ q → A q) (hST : ST A s) (J : Jn ws wc w1 ws')
    (hn : As.length = n) (hsize : ls.size = nL) (hstack : st0 = As.reverse ++ rest) (hW : (rest.map fun v => v.category).sum ≤ 8) (hdg : decode cc pc = .ok (.invokestatic index, 3)) (hf : cells + mc ≤ R.cells ∧ slots + ms ≤ R.slots) (hst : o.toList ++ rest = st1)
    (kk : ∀ (H1 : Heap) (locs1 : List Loc), va_P D vwCl ws' H1 → va_D A ws' → va_S A s.heap H1 locs1 → W p l e R s m args below meth c H1 locs1 (cells + mc) (slots + ms) Q (F0 m (pc + 3) ls st1)) : W p l e R s m args below meth c H locs cells slots Q (F0 m pc ls st0) :=
  c0_go (va_runS S (hM H.size) cw ⟨pd_blind, pd_at hK hP hD hS hA hST J⟩ rfl hn hsize hstack (lv_room hW) hdg hf) hP hD hS hA J hst kk
theorem c0_SN (S : CallFix p m c cc nL s args Ts own) (hM : M0 l y wsY rm D tys As wc o w1 mc ms) (cw : va_CN R s args own index y host bytes maxL ret wsY rm mc ms n ∧ (Cond.static y).before args s = true ∧ True) (hK : va_K D vwCl tys s) (hP : va_P D vwCl ws H) (hD : va_D A ws) (hS : va_S A s.heap H locs) (hA : ∀ q : Nat, s.heap.size ≤ q → A q) (hST : ST A s) (J : Jn ws wc w1 ws')
    (hn : As.length = n) (hsize : ls.size = nL) (hstack : st0 = As.reverse ++ rest) (hW : (rest.map fun v => v.category).sum ≤ 8) (hdg : decode cc pc = .ok (.invokestatic index, 3)) (hf : cells + mc ≤ R.cells ∧ slots + ms ≤ R.slots) (hst : o.toList ++ rest = st1)
    (kk : ∀ (H1 : Heap) (locs1 : List Loc), va_P D vwCl ws' H1 → va_D A ws' → va_S A s.heap H1 locs1 → W p l e R s m args below meth c H1 locs1 (cells + mc) (slots + ms) Q (F0 m (pc + 3) ls st1)) : W p l e R s m args below meth c H locs cells slots Q (F0 m pc ls st0) :=
  c0_go (va_runSN S (hM H.size) cw ⟨pd_blind, pd_at hK hP hD hS hA hST J⟩ rfl hn hsize hstack (lv_room hW) hdg hf) hP hD hS hA J hst kk
theorem c0_I (S : CallFix p m c cc nL s args Ts own) (hM : M0 l y wsY rm D tys (.ref b :: As) wc o w1 mc ms) (cw : CallB R s args own index y bytes maxL none wsY rm mc ms n ∧ y.name = "<init>" ∧ (Cond.instanceMethod y).before args s = true) (hK : va_K D vwCl tys s) (hP : va_P D vwCl ws H) (hD : va_D A ws) (hS : va_S A s.heap H locs) (hA : ∀ q : Nat, s.heap.size ≤ q → A q) (hST : ST A s) (J : Jn ws wc w1 ws')
    (hn : As.length = n) (hsize : ls.size = nL) (hstack : st0 = As.reverse ++ .ref b :: rest) (hW : (rest.map fun v => v.category).sum ≤ 8) (hdg : decode cc pc = .ok (.invokespecial index, 3)) (hf : cells + mc ≤ R.cells ∧ slots + ms ≤ R.slots) (hst : o.toList ++ rest = st1)
    (kk : ∀ (H1 : Heap) (locs1 : List Loc), va_P D vwCl ws' H1 → va_D A ws' → va_S A s.heap H1 locs1 → W p l e R s m args below meth c H1 locs1 (cells + mc) (slots + ms) Q (F0 m (pc + 3) ls st1)) : W p l e R s m args below meth c H locs cells slots Q (F0 m pc ls st0) :=
  c0_go (va_runI S (hM H.size) cw ⟨pd_blind, pd_at hK hP hD hS hA hST J⟩ rfl hn hsize hstack (lv_room hW) hdg hf) hP hD hS hA J hst kk
theorem c0_IN (S : CallFix p m c cc nL s args Ts own) (hM : M0 l y wsY rm D tys (.ref b :: As) wc o w1 mc ms) (cw : va_CN R s args own index y host bytes maxL none wsY rm mc ms n ∧ y.name = "<init>" ∧ (Cond.instanceMethod y).before args s = true) (hK : va_K D vwCl tys s) (hP : va_P D vwCl ws H) (hD : va_D A ws) (hS : va_S A s.heap H locs) (hA : ∀ q : Nat, s.heap.size ≤ q → A q) (hST : ST A s) (J : Jn ws wc w1 ws')
    (hn : As.length = n) (hsize : ls.size = nL) (hstack : st0 = As.reverse ++ .ref b :: rest) (hW : (rest.map fun v => v.category).sum ≤ 8) (hdg : decode cc pc = .ok (.invokespecial index, 3)) (hf : cells + mc ≤ R.cells ∧ slots + ms ≤ R.slots) (hst : o.toList ++ rest = st1)
    (kk : ∀ (H1 : Heap) (locs1 : List Loc), va_P D vwCl ws' H1 → va_D A ws' → va_S A s.heap H1 locs1 → W p l e R s m args below meth c H1 locs1 (cells + mc) (slots + ms) Q (F0 m (pc + 3) ls st1)) : W p l e R s m args below meth c H locs cells slots Q (F0 m pc ls st0) :=
  c0_go (va_runIN S (hM H.size) cw ⟨pd_blind, pd_at hK hP hD hS hA hST J⟩ rfl hn hsize hstack (lv_room hW) hdg hf) hP hD hS hA J hst kk
/-! a callee that may throw -/
theorem c1_go {a : Array Value} (hr : vx_Run p l e R s m args below meth c H locs cells slots mc ms (F0 m pc ls st0) rest (fun st oc t => ok ∧ Qd D o w1 (va_A wc H.size) a st oc t) (Xd D px wc (va_A wc H.size)) (va_A wc H.size)) (hP : va_P D vwCl ws H) (hD : va_D A ws) (hS : va_S A s.heap H locs) (hA : ∀ q : Nat, s.heap.size ≤ q → A q) (J : Jn ws wc w1 ws') (J0 : Jn ws wc wc ws) (hst : o.toList ++ rest = st1)
    (kx : ∀ (E : String) (ce : Cell) (q9 : Addr) (H1 : Heap) (locs1 : List Loc), px E → va_P D vwCl ws H1 → va_S A s.heap H1 locs1 → H1[q9]? = some ce → ce.vm = .none → s.vm.findClass E = some ce.cls → vx_W p l e R s m args below meth c H1 locs1 (cells + mc) (slots + ms) Q (F0 m pc ls rest) q9)
    (kk : ok → ∀ (H1 : Heap) (locs1 : List Loc), va_P D vwCl ws' H1 → va_D A ws' → va_S A s.heap H1 locs1 → W p l e R s m args below meth c H1 locs1 (cells + mc) (slots + ms) Q (F0 m (pc + 3) ls st1)) : W p l e R s m args below meth c H locs cells slots Q (F0 m pc ls st0) := by
  intro T hT X
  have hF := J.free hD hS hA
  rcases hr T hT X with ⟨v, st₀, t, T', L, h0, X', hL, e1, e2, ⟨hok, hv, hP1, hz, hk⟩, st⟩ | ⟨q, st₀, t, T', L, E, ce, h0, X', hL, e1, e2, ⟨hp, hP1, hz, hk⟩, hce, hcv, hcl, st⟩
  · cases hv
    rw [h0] at hz hk
    obtain ⟨t2, a1, b1⟩ := kk hok T'.heap (locs ++ L) (J.P hP hD (by rw [e1]; exact hP1) (fun q h1 h2 => by rw [e1]; exact hk q h1 h2)) (J.2.2.1 A hD)
      ⟨Nat.le_trans hS.1 (by rw [e1]; exact hz), fun q h1 h2 => by rw [e1, hk q (Nat.lt_of_lt_of_le h1 hS.1) (fun z => h2 (hF q z))]; exact hS.2.1 q h1 h2, fun q hq => by
        rcases List.mem_append.mp hq with h | h
        · exact hS.2.2 q h
        · exact hF _ (hL q h)⟩ T' rfl X'
    rw [← hst] at a1
    exact ⟨t2, st t2 a1, b1⟩
  · rw [h0] at hz hk
    obtain ⟨t2, a1, b1⟩ := kx E ce q T'.heap (locs ++ L) hp (J0.P hP hD (by rw [e1]; exact hP1) (fun q h1 h2 => by rw [e1]; exact hk q h1 h2))
      ⟨Nat.le_trans hS.1 (by rw [e1]; exact hz), fun q h1 h2 => by rw [e1, hk q (Nat.lt_of_lt_of_le h1 hS.1) (fun z => h2 (hF q z))]; exact hS.2.1 q h1 h2, fun q hq => by
        rcases List.mem_append.mp hq with h | h
        · exact hS.2.2 q h
        · exact hF _ (hL q h)⟩ (by rw [e1]; exact hce) hcv hcl T' rfl X'
    exact ⟨t2, st.trans a1, b1⟩
theorem c1_V (S : CallFix p m c cc nL s args Ts own) (hM : M1 l y wsY rm D tys (.ref b :: As) wc ok o w1 px mc ms) (cw : CallW R s args own C index y bytes maxL ret wsY rm mc ms n) (hK : va_K D vwCl tys s) (hP : va_P D vwCl ws H) (hD : va_D A ws) (hS : va_S A s.heap H locs) (hA : ∀ q : Nat, s.heap.size ≤ q → A q) (hST : ST A s) (J : Jn ws wc w1 ws') (J0 : Jn ws wc wc ws)
    (k0 : Nat) {ci : Nat} {q : vw_C} {fs : List Value} (hk0 : wc[k0]? = some (b, .inr (ci, fs))) (hci : vwCl[ci]? = some q) (hq : q.1 = C) (hn : As.length = n) (hsize : ls.size = nL) (hstack : st0 = As.reverse ++ .ref b :: rest) (hW : (rest.map fun v => v.category).sum ≤ 8) (hdg : decode cc pc = .ok (.invokevirtual index, 3)) (hf : cells + mc ≤ R.cells ∧ slots + ms ≤ R.slots) (hst : o.toList ++ rest = st1)
    (kx : ∀ (E : String) (ce : Cell) (q9 : Addr) (H1 : Heap) (locs1 : List Loc), px E → va_P D vwCl ws H1 → va_S A s.heap H1 locs1 → H1[q9]? = some ce → ce.vm = .none → s.vm.findClass E = some ce.cls → vx_W p l e R s m args below meth c H1 locs1 (cells + mc) (slots + ms) Q (F0 m pc ls rest) q9)
    (kk : ok → ∀ (H1 : Heap) (locs1 : List Loc), va_P D vwCl ws' H1 → va_D A ws' → va_S A s.heap H1 locs1 → W p l e R s m args below meth c H1 locs1 (cells + mc) (slots + ms) Q (F0 m (pc + 3) ls st1)) : W p l e R s m args below meth c H locs cells slots Q (F0 m pc ls st0) := by
  subst hq
  exact c1_go (vx_runV S (hM H.size) cw ⟨pd_blind, va_recv hK (J.sub hP) hci hk0, pd_at hK hP hD hS hA hST J⟩ rfl hn hsize hstack (lv_room hW) hdg hf) hP hD hS hA J J0 hst kx kk
theorem c1_S (S : CallFix p m c cc nL s args Ts own) (hM : M1 l y wsY rm D tys As wc ok o w1 px mc ms) (cw : CallB R s args own index y bytes maxL ret wsY rm mc ms n ∧ (Cond.static y).before args s = true) (hK : va_K D vwCl tys s) (hP : va_P D vwCl ws H) (hD : va_D A ws) (hS : va_S A s.heap H locs) (hA : ∀ q : Nat, s.heap.size ≤ q → A q) (hST : ST A s) (J : Jn ws wc w1 ws') (J0 : Jn ws wc wc ws)
    (hn : As.length = n) (hsize : ls.size = nL) (hstack : st0 = As.reverse ++ rest) (hW : (rest.map fun v => v.category).sum ≤ 8) (hdg : decode cc pc = .ok (.invokestatic index, 3)) (hf : cells + mc ≤ R.cells ∧ slots + ms ≤ R.slots) (hst : o.toList ++ rest = st1)
    (kx : ∀ (E : String) (ce : Cell) (q9 : Addr) (H1 : Heap) (locs1 : List Loc), px E → va_P D vwCl ws H1 → va_S A s.heap H1 locs1 → H1[q9]? = some ce → ce.vm = .none → s.vm.findClass E = some ce.cls → vx_W p l e R s m args below meth c H1 locs1 (cells + mc) (slots + ms) Q (F0 m pc ls rest) q9)
    (kk : ok → ∀ (H1 : Heap) (locs1 : List Loc), va_P D vwCl ws' H1 → va_D A ws' → va_S A s.heap H1 locs1 → W p l e R s m args below meth c H1 locs1 (cells + mc) (slots + ms) Q (F0 m (pc + 3) ls st1)) : W p l e R s m args below meth c H locs cells slots Q (F0 m pc ls st0) :=
  c1_go (vx_runS S (hM H.size) cw ⟨pd_blind, pd_at hK hP hD hS hA hST J⟩ rfl hn hsize hstack (lv_room hW) hdg hf) hP hD hS hA J J0 hst kx kk
/-! ends -/
theorem qd_end {t : State} (hP : va_P D vwCl w1 H) (hS : va_S A s.heap H locs) (ht : t.heap = H) : Qd D o w1 A args s (.returned o) t := ⟨rfl, by rw [ht]; exact hP, hS.F ht⟩
theorem e0_i {v : Int32} (hx : p.tables.exec = Jvm.exec) (hb : c.code = cc) (hr : meth.sig.returnType = some .int) (hlocks : meth.locks = false) (hP : va_P D vwCl w1 H) (hS : va_S A s.heap H locs) (hdg : decode cc pc = .ok (.ireturn, 1)) (hc : cells ≤ mc) (hs : slots ≤ ms) (ho : o = some (.int v)) :
    W p l e R s m args below meth c H locs cells slots (Q0 below D o w1 A args s mc ms) (F0 m pc ls [.int v]) := by
  subst ho
  exact W.widen hc hs (W.iret hx hb hr (fun t ht _ => qd_end hP hS ht) hS.2.2 hdg)
theorem e0_z {v : Int32} (hx : p.tables.exec = Jvm.exec) (hb : c.code = cc) (hr : meth.sig.returnType = some .boolean) (hlocks : meth.locks = false) (hP : va_P D vwCl w1 H) (hS : va_S A s.heap H locs) (hdg : decode cc pc = .ok (.ireturn, 1)) (hn : narrow .boolean (.int v) = .int v) (hc : cells ≤ mc) (hs : slots ≤ ms) (ho : o = some (.int v)) :
    W p l e R s m args below meth c H locs cells slots (Q0 below D o w1 A args s mc ms) (F0 m pc ls [.int v]) := by
  subst ho
  exact W.widen hc hs (W.zret hx hb hr hn (fun t ht _ => qd_end hP hS ht) hS.2.2 hdg)
theorem e0_v (hx : p.tables.exec = Jvm.exec) (hb : c.code = cc) (hr : meth.sig.returnType = none) (hlocks : meth.locks = false) (hP : va_P D vwCl w1 H) (hS : va_S A s.heap H locs) (hdg : decode cc pc = .ok (.return_, 1)) (hc : cells ≤ mc) (hs : slots ≤ ms) (ho : o = none) :
    W p l e R s m args below meth c H locs cells slots (Q0 below D o w1 A args s mc ms) (F0 m pc ls []) := by
  subst ho
  exact W.widen hc hs (W.vret hx hb hr (fun t ht _ => qd_end hP hS ht) hS.2.2 hdg)
theorem e0_l {v : Int64} (hx : p.tables.exec = Jvm.exec) (hb : c.code = cc) (hr : meth.sig.returnType = some .long) (hlocks : meth.locks = false) (hP : va_P D vwCl w1 H) (hS : va_S A s.heap H locs) (hdg : decode cc pc = .ok (.lreturn, 1)) (hc : cells ≤ mc) (hs : slots ≤ ms) (ho : o = some (.long v)) :
    W p l e R s m args below meth c H locs cells slots (Q0 below D o w1 A args s mc ms) (F0 m pc ls [.long v]) := by
  subst ho
  exact W.widen hc hs (W.lret hx hb hr (fun t ht _ => qd_end hP hS ht) hS.2.2 hdg)
theorem e1_i {v : Int32} (hx : p.tables.exec = Jvm.exec) (hb : c.code = cc) (hr : meth.sig.returnType = some .int) (hlocks : meth.locks = false) (hok : ok) (hP : va_P D vwCl w1 H) (hS : va_S A s.heap H locs) (hdg : decode cc pc = .ok (.ireturn, 1)) (hc : cells ≤ mc) (hs : slots ≤ ms) (ho : o = some (.int v)) :
    W p l e R s m args below meth c H locs cells slots (Q1 below D ok o w1 px wc A args s mc ms) (F0 m pc ls [.int v]) := by
  subst ho
  exact W.widen hc hs (vx_ret (W.iret hx hb hr (fun t ht _ => ⟨hok, qd_end hP hS ht⟩) hS.2.2 hdg))
theorem e1_v (hx : p.tables.exec = Jvm.exec) (hb : c.code = cc) (hr : meth.sig.returnType = none) (hlocks : meth.locks = false) (hok : ok) (hP : va_P D vwCl w1 H) (hS : va_S A s.heap H locs) (hdg : decode cc pc = .ok (.return_, 1)) (hc : cells ≤ mc) (hs : slots ≤ ms) (ho : o = none) :
    W p l e R s m args below meth c H locs cells slots (Q1 below D ok o w1 px wc A args s mc ms) (F0 m pc ls []) := by
  subst ho
  exact W.widen hc hs (vx_ret (W.vret hx hb hr (fun t ht _ => ⟨hok, qd_end hP hS ht⟩) hS.2.2 hdg))
theorem e1_a {x : Addr} {rt : FieldType} (hx : p.tables.exec = Jvm.exec) (hb : c.code = cc) (hr : meth.sig.returnType = some rt) (hrt : ∃ n, rt = .object n) (hlocks : meth.locks = false) (hok : ok) (hP : va_P D vwCl w1 H) (hS : va_S A s.heap H locs) (hdg : decode cc pc = .ok (.areturn, 1)) (hc : cells ≤ mc) (hs : slots ≤ ms) (ho : o = some (.ref x)) :
    W p l e R s m args below meth c H locs cells slots (Q1 below D ok o w1 px wc A args s mc ms) (F0 m pc ls [.ref x]) := by
  subst ho
  exact W.widen hc hs (vx_ret (W.aret hx hb hr (Or.inl hrt) (Or.inr ⟨_, rfl⟩) (fun t ht _ => ⟨hok, qd_end hP hS ht⟩) hS.2.2 hdg))
/-- throw new E("text") in a method of the class -/
theorem vg_1 : ∀ w ∈ (vx_atS RX3 23 IOOBE XN).filter (fun w => !goodWord w), w ∈ [Cond.declares (Bundle.initS "java/lang/RuntimeException"), .declares (Bundle.initS "java/lang/Exception"), .declares (Bundle.initS Bundle.tN), .castable IOOBE IOOBE] := by decide +kernel
theorem vg_2 : ∀ w ∈ (vx_atS RX3 30 IAE XN).filter (fun w => !goodWord w), w ∈ [Cond.declares (Bundle.initS "java/lang/RuntimeException"), .declares (Bundle.initS "java/lang/Exception"), .declares (Bundle.initS Bundle.tN), .castable IAE IAE] := by decide +kernel
theorem vg_3 : ∀ w ∈ (vx_atS RX3 59 ISE XN).filter (fun w => !goodWord w), w ∈ [Cond.declares (Bundle.initS "java/lang/RuntimeException"), .declares (Bundle.initS "java/lang/Exception"), .declares (Bundle.initS Bundle.tN), .castable ISE ISE] := by decide +kernel
theorem vo_1 : ∀ w ∈ Cond.classLink RX3 19 IOOBE :: Cond.initialized IOOBE :: vx_atS RX3 23 IOOBE XN, vx_ot w = true := by decide +kernel
theorem vo_2 : ∀ w ∈ Cond.classLink RX3 26 IAE :: Cond.initialized IAE :: vx_atS RX3 30 IAE XN, vx_ot w = true := by decide +kernel
theorem vo_3 : ∀ w ∈ Cond.classLink RX3 55 ISE :: Cond.initialized ISE :: vx_atS RX3 59 ISE XN, vx_ot w = true := by decide +kernel
theorem xn_fit : ∀ n ∈ XN, Bundle.fit n = true := by decide +kernel
theorem e1_throw {cls text : String} {ik is ic : Nat} (hx : p.tables.exec = Jvm.exec) (hb : c.code = cc) (hl : l.stackTraces = false) (hown : s.vm.findClass RX3 = some m.cls) (hts : ∀ w ∈ Ts, w.before args s = true) (hcls : Bundle.fit cls = true)
    (hk : Cond.classLink RX3 ik cls ∈ Ts) (hini : Cond.initialized cls ∈ Ts) (hgd : ∀ w ∈ (vx_atS RX3 ic cls XN).filter goodWord, w ∈ Ts)
    (hng : ∀ w ∈ (vx_atS RX3 ic cls XN).filter (fun w => !goodWord w), w ∈ [Cond.declares (Bundle.initS "java/lang/RuntimeException"), .declares (Bundle.initS "java/lang/Exception"), .declares (Bundle.initS Bundle.tN), .castable cls cls])
    (hot : ∀ w ∈ Cond.classLink RX3 ik cls :: Cond.initialized cls :: vx_atS RX3 ic cls XN, vx_ot w = true) (hca : cls ∈ CA) (hST : ST A s) (hstr : (is, text) ∈ STR) (hS : va_S A s.heap H locs) (hsize : ls.size = c.maxLocals)
    (d0 : decode cc pc = .ok (.new ik, 3)) (d3 : decode cc (pc + 3) = .ok (.dup, 1)) (d4 : decode cc (pc + 4) = .ok (.ldc is, 2)) (d6 : decode cc (pc + 6) = .ok (.invokespecial ic, 3)) (d9 : decode cc (pc + 9) = .ok (.athrow, 1))
    (htab : ∀ x ∈ c.exceptionTable.toList, False) (hRframes : 5 < R.frames) (hRlocals : (rest.map fun v => v.category).sum + 82 ≤ R.locals) (hRcells : cells + 1 ≤ R.cells) (hRslots : slots + 6 ≤ R.slots) (hlocks : meth.locks = false)
    (hE : px cls) (hP : va_P D vwCl wc H) (hc : cells + 1 ≤ mc) (hs : slots + 6 ≤ ms) :
    W p l e R s m args below meth c H locs cells slots (Q1 below D ok o w1 px wc A args s mc ms) (F0 m pc ls rest) := by
  obtain ⟨h1, h2, h3, h4, h5, h5d, h6, h7, -⟩ := hST
  obtain ⟨sa, hsa⟩ := h3 _ hstr
  have hB : ∀ w ∈ [Cond.declares (Bundle.initS "java/lang/RuntimeException"), .declares (Bundle.initS "java/lang/Exception"), .declares (Bundle.initS Bundle.tN), .castable cls cls], w.before args s = true :=
    vx_c (va_Nw.use rfl (h5d _ (by simp [DC]))) (vx_c (va_Nw.use rfl (h5d _ (by simp [DC]))) (vx_c (va_Nw.use rfl (h5d _ (by simp [DC]))) (vx_c (va_Nw.use rfl (h5 _ hca)) vx_n)))
  refine vx_throwS (names := XN) (A := A) hx hb hl hown hcls xn_fit (hts _ hk) (hts _ hini) hsa (vx_hat (fun w hw => hts w (hgd w hw)) hng hB) hot h6 h7 hS hsize d0 d3 d4 d6 d9 (fun x hx => absurd (htab x hx) id) hRframes (by simpa using hRlocals) hRcells hRslots hlocks ?_ hS.2.2 hc hs
  intro t hvm hz hk9
  refine ⟨hE, hP.kept (fun k q hq => hk9 _ (hP k q hq).lt), Nat.le_trans hS.1 hz, fun q hq hn => ?_⟩
  rw [hk9 q (Nat.lt_of_lt_of_le hq hS.1)]
  exact hS.2.1 q hq hn
/-- a callee's exception goes on to the caller -/
theorem e1_out {E : String} {ce : Cell} {q9 : Addr} (htab : ∀ x ∈ c.exceptionTable.toList, False) (hlocks : meth.locks = false) (hE : px E) (hP : va_P D vwCl wc H) (hS : va_S A s.heap H locs) (hce : H[q9]? = some ce) (hcv : ce.vm = .none) (hcl : s.vm.findClass E = some ce.cls) (hc : cells ≤ mc) (hs : slots ≤ ms) :
    vx_W p l e R s m args below meth c H locs cells slots (Q1 below D ok o w1 px wc A args s mc ms) (F0 m pc ls rest) q9 :=
  vx_out (fun x hx => absurd (htab x hx) id) hlocks hce hcv hcl (fun t ht _ => ⟨hE, by rw [ht]; exact hP, hS.F ht⟩) hS.2.2 hc hs
end KC
end
