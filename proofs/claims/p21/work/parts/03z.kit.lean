/-! my own layer: contracts with one outcome over the class's worlds -/
abbrev TY (cI cC cT cL : ClassId) : List (ClassId × FieldType) := [(cI, .int), (cC, .object RX1), (cT, .object RX2), (cL, .array .int)]
/-- words of nest mates -/
def NF : List (String × Nat × String × String × String) := [(RX3, 75, RX1, "cold", "I"), (RX0, 119, RX1, "cold", "I"), (RX3, 88, RX1, "cream", "I"), (RX0, 113, RX1, "cream", "I"), (RX3, 96, RX1, "firm", "I"), (RX0, 116, RX1, "firm", "I"), (RX0, 71, RX2, "scoops", "I"), (RX3, 111, RX2, "scoops", "I"), (RX0, 77, RX2, "soft", "I"), (RX0, 74, RX2, "sold", "I"), (RX3, 31, RX0, "stock", "[I"), (RX3, 48, RX0, "heats", "[I"), (RX3, 168, RX0, "churns", "[LColdCreamery$Churn;"), (RX3, 172, RX0, "tubs", "[LColdCreamery$Tub;"), (RX3, 51, RX0, "churnCount", "I"), (RX3, 60, RX0, "tubCount", "I"), (RX3, 131, RX0, "coins", "I"), (RX3, 159, RX0, "sentAway", "I"), (RX0, 9, RX3, "STOCK_LIMITS", "[I")]
def NM : List (String × Nat × MethodName) := [(RX0, 39, yX1_init), (RX0, 40, yX2_init), (RX0, 97, yX3_iceAfterHour), (RX1, 19, yX3_firmAfterHour), (RX1, 25, yX3_coldAfterHour), (RX0, 122, yX3_firmAfterHour), (RX0, 125, yX3_coldAfterHour)]
abbrev IOOBE : String := "java/lang/IndexOutOfBoundsException"
abbrev IAE : String := "java/lang/IllegalArgumentException"
abbrev ISE : String := "java/lang/IllegalStateException"
def STR : List (Nat × String) := [(21, "what is 0 to 3"), (28, "many is 1 to 300"), (44, "day is 0 to 6"), (46, "heat is 0 to 40"), (57, "there are 4 churns"), (63, "there are 6 tubs"), (176, "there is no such churn"), (180, "ice and salt are 0 to 60"), (73, "there is not so much in the cellar"), (84, "cream is 1 to 20"), (86, "there is not so much cream in the cellar"), (178, "there is no such tub"), (103, "the churn holds no firm cream"), (114, "what is 0 to 2"), (121, "what is 0 to 9"), (182, "hours is 1 to 168"), (141, "what is 2, 6, 7, 8 or 9"), (91, "a churn holds 20 cream at most")]
def NC : List (String × String) := [(IOOBE, ISE), (IAE, ISE)]
def CA : List String := [IOOBE, IAE, ISE]
def DC : List MethodName := [Bundle.initS "java/lang/RuntimeException", Bundle.initS "java/lang/Exception", Bundle.initS Bundle.tN]
abbrev XN : List String := ["java/lang/RuntimeException", "java/lang/Exception"]
def limF (j : Nat) : Int32 := if j = 0 then 900 else 300
/-- what every method may take of the tables and statics: nothing that anybody writes -/
def ST (A : Nat → Prop) (U : State) : Prop :=
  (∀ x ∈ NF, va_Nw (.fieldLinkNest x.1 x.2.1 x.2.2.1 x.2.2.2.1 x.2.2.2.2 RX3) U) ∧ (∀ x ∈ NM, va_Nw (.methodLinkNest x.1 x.2.1 x.2.2 RX3) U) ∧
  (∀ q ∈ STR, ∃ a, vk_R RX3 q.1 q.2 a U) ∧ (∀ q ∈ NC, va_Nc q.1 q.2 U) ∧ (∀ q ∈ CA, va_Nw (.castable q q) U) ∧ (∀ x ∈ DC, va_Nw (.declares x) U) ∧
  vx_Zq Bundle.tN "UNASSIGNED_STACK" Bundle.steD A U U.heap ∧ vx_Zq Bundle.tN "SUPPRESSED_SENTINEL" Bundle.listD A U U.heap ∧
  (∃ t, va_Z RX3 "STOCK_LIMITS" "[I" (.ref t) A U U.heap ∧ va_T .int t 4 (fun j => .int (limF j)) A U U.heap) ∧
  va_AOA .int U ∧ va_AO RX1 U ∧ va_AO RX2 U
theorem ST.call {A B : Nat → Prop} {s U : State} {H : Heap} {locs : List Loc} (h : ST A s) (hS : va_S A s.heap H locs) (hW : s.WarmedH U.vm) (hU : U.heap = H) (hB : ∀ q, B q → A q) : ST B U := by
  obtain ⟨h1, h2, h3, h4, h5, h5d, h6, h7, ⟨t8, h8, h9⟩, h10, h12, h13⟩ := h
  have hk : ∀ a : Nat, a < s.heap.size → ¬ A a → U.heap[a]? = s.heap[a]? := by rw [hU]; exact hS.2.1
  refine ⟨fun x hx => va_Nw.warmF hW (h1 x hx), fun x hx => va_Nw.warmM hW (h2 x hx), fun q hq => ?_, fun q hq => va_Nc.moved hW.alike (h4 q hq), fun q hq => va_Nw.warmC hW (h5 q hq), fun x hx => va_Nw.warmD hW (h5d x hx),
    ((h6.kept hk).moved hW.alike).narrow hB, ((h7.kept hk).moved hW.alike).narrow hB, ⟨t8, ((h8.kept hk).moved hW.alike).narrow hB, ((h9.kept hk).moved hW.alike).narrow hB⟩, h10.moved hW.alike, h12.moved hW.alike, h13.moved hW.alike⟩
  obtain ⟨a, ha⟩ := h3 q hq
  exact ⟨a, ha.warm hW⟩
/-! where a callee's world lies in the caller's -/
theorem dn_of {A : Nat → Prop} {ws : va_W} (h : va_D A ws) : (ws.map (fun q => q.1)).Nodup ∧ ∀ q ∈ ws, A q.1 := by
  refine ⟨?_, fun q hq => ?_⟩
  · refine List.pairwise_iff_getElem.mpr (fun i j hi hj hij he => ?_)
    rw [List.length_map] at hi hj
    rw [List.getElem_map, List.getElem_map] at he
    have h1 := h.1 i j _ _ (List.getElem?_eq_getElem hi) (List.getElem?_eq_getElem hj) he
    omega
  · obtain ⟨k, hk⟩ := List.getElem?_of_mem hq
    exact h.2 k q hk
theorem dn_to {A : Nat → Prop} {ws : va_W} (h1 : (ws.map (fun q => q.1)).Nodup) (h2 : ∀ q ∈ ws, A q.1) : va_D A ws := by
  refine ⟨fun i j p q hi hj he => ?_, fun k q hk => h2 q (List.mem_of_getElem? hk)⟩
  have e : ∀ i, (ws.map (fun q : Nat × va_E => q.1))[i]? = (ws[i]?).map (fun q : Nat × va_E => q.1) := fun i => List.getElem?_map ..
  have hi' := (List.getElem?_eq_some_iff.mp hi).1
  exact (List.getElem?_inj (by rw [List.length_map]; exact hi') h1).mp (by rw [e, e, hi, hj]; exact congrArg some he)
def Jn (ws wc w1 ws' : va_W) : Prop :=
  (∀ q ∈ wc, q ∈ ws) ∧ (∀ A, va_D A ws → va_D A wc) ∧ (∀ A, va_D A ws → va_D A ws') ∧ (∀ A, va_D A ws → ∀ q ∈ ws', q ∈ w1 ∨ (q ∈ ws ∧ ∀ p ∈ wc, p.1 ≠ q.1))
theorem Jn_mid (L wc w1 R : va_W) (h : w1.map (fun q => q.1) = wc.map (fun q => q.1)) : Jn (L ++ (wc ++ R)) wc w1 (L ++ (w1 ++ R)) := by
  refine ⟨fun q hq => by simp [hq], fun A hD => ?_, fun A hD => ?_, fun A hD q hq => ?_⟩
  · obtain ⟨h1, h2⟩ := dn_of hD
    simp only [List.map_append, List.nodup_append] at h1
    exact dn_to h1.2.1.1 (fun q hq => h2 q (by simp [hq]))
  · obtain ⟨h1, h2⟩ := dn_of hD
    refine dn_to ?_ (fun q hq => ?_)
    · simp only [List.map_append] at h1 ⊢
      rw [h]; exact h1
    · simp only [List.mem_append] at hq
      rcases hq with hq | hq | hq
      · exact h2 q (by simp [hq])
      · have : q.1 ∈ wc.map (fun q => q.1) := by rw [← h]; exact List.mem_map.mpr ⟨q, hq, rfl⟩
        obtain ⟨p, hp, hpq⟩ := List.mem_map.mp this
        rw [← hpq]; exact h2 p (by simp [hp])
      · exact h2 q (by simp [hq])
  · obtain ⟨h1, h2⟩ := dn_of hD
    simp only [List.map_append, List.nodup_append] at h1
    simp only [List.mem_append] at hq
    rcases hq with hq | hq | hq
    · refine Or.inr ⟨by simp [hq], fun p hp he => ?_⟩
      exact h1.2.2 q.1 (List.mem_map.mpr ⟨q, hq, rfl⟩) p.1 (List.mem_append_left _ (List.mem_map.mpr ⟨p, hp, rfl⟩)) he.symm
    · exact Or.inl hq
    · refine Or.inr ⟨by simp [hq], fun p hp he => ?_⟩
      exact h1.2.1.2.2 p.1 (List.mem_map.mpr ⟨p, hp, rfl⟩) q.1 (List.mem_map.mpr ⟨q, hq, rfl⟩) he
theorem Jn_all (ws w1 : va_W) (h : w1.map (fun q => q.1) = ws.map (fun q => q.1)) : Jn ws ws w1 w1 := by
  have := Jn_mid [] ws w1 [] h
  simpa using this
theorem Jn_nil (ws : va_W) : Jn ws [] [] ws := by
  refine ⟨fun q hq => by simp at hq, fun A hD => dn_to (by simp) (by simp), fun A h => h, fun A hD q hq => Or.inr ⟨hq, fun p hp => by simp at hp⟩⟩
theorem Jn_set {ws : va_W} (k a : Nat) (e e' : va_E) (h : ws[k]? = some (a, e)) : Jn ws [(a, e)] [(a, e')] (ws.set k (a, e')) := by
  refine ⟨fun q hq => ?_, fun A hD => ?_, fun A hD => hD.set h, fun A hD q hq => ?_⟩
  · rw [List.mem_singleton.mp hq]; exact List.mem_of_getElem? h
  · exact dn_to (by simp) (fun q hq => by rw [List.mem_singleton.mp hq]; exact hD.2 k _ h)
  · obtain ⟨j, hj⟩ := List.getElem?_of_mem hq
    by_cases hjk : j = k
    · subst hjk
      rw [List.getElem?_set_self (List.getElem?_eq_some_iff.mp h).1] at hj
      cases hj
      exact Or.inl (List.mem_singleton.mpr rfl)
    · rw [List.getElem?_set_ne (Ne.symm hjk)] at hj
      refine Or.inr ⟨List.mem_of_getElem? hj, fun p hp he => ?_⟩
      rw [List.mem_singleton.mp hp] at he
      exact hjk (hD.1 k j _ _ h hj he).symm
theorem Jn.P {D : va_G} {ws wc w1 ws' : va_W} {A : Nat → Prop} {H H1 : Heap} (J : Jn ws wc w1 ws') (hP : va_P D vwCl ws H) (hD : va_D A ws) (hP1 : va_P D vwCl w1 H1) (hk : ∀ q : Nat, q < H.size → ¬ va_A wc H.size q → H1[q]? = H[q]?) : va_P D vwCl ws' H1 := by
  intro k q hq
  rcases J.2.2.2 A hD q (List.mem_of_getElem? hq) with h | ⟨h, hn⟩
  · obtain ⟨j, hj⟩ := List.getElem?_of_mem h
    exact hP1 j q hj
  · obtain ⟨j, hj⟩ := List.getElem?_of_mem h
    have hl := (hP j q hj).lt
    refine (hP j q hj).kept (hk q.1 hl ?_)
    rintro (⟨i, e, hi⟩ | hi)
    · exact hn (q.1, e) (List.mem_of_getElem? hi) rfl
    · omega
theorem Jn.sub {D : va_G} {ws wc w1 ws' : va_W} {H : Heap} (J : Jn ws wc w1 ws') (hP : va_P D vwCl ws H) : va_P D vwCl wc H := by
  intro k q hq
  obtain ⟨j, hj⟩ := List.getElem?_of_mem (J.1 q (List.mem_of_getElem? hq))
  exact hP j q hj
theorem Jn.free {ws wc w1 ws' : va_W} {A : Nat → Prop} {H0 H : Heap} {locs : List Loc} (J : Jn ws wc w1 ws') (hD : va_D A ws) (hS : va_S A H0 H locs) (hA : ∀ q, H0.size ≤ q → A q) : ∀ q, va_A wc H.size q → A q := by
  rintro q (⟨k, e, hk⟩ | hk)
  · exact (dn_of hD).2 (q, e) (J.1 _ (List.mem_of_getElem? hk))
  · exact hA q (Nat.le_trans hS.1 hk)
/-! contracts -/
def Qd (D : va_G) (o : Option Value) (w1 : va_W) (A : Nat → Prop) : Array Value → State → Outcome → State → Prop := fun _ st oc t => oc = .returned o ∧ va_P D vwCl w1 t.heap ∧ va_F A st t
def Xd (D : va_G) (px : String → Prop) (wc : va_W) (A : Nat → Prop) : String → State → State → Prop := fun E st t => px E ∧ va_P D vwCl wc t.heap ∧ va_F A st t
def Pd (D : va_G) (tys : List (ClassId × FieldType)) (av : List Value) (wc : va_W) (sz : Nat) : Array Value → State → Prop := va_Pc av (fun U => U.heap.size = sz ∧ va_P D vwCl wc U.heap ∧ va_K D vwCl tys U ∧ va_D (fun _ => True) wc ∧ ST (va_A wc sz) U)
def M0 (l : Launch) (y : MethodName) (ws : List Cond) (rm : Room) (D : va_G) (tys : List (ClassId × FieldType)) (av : List Value) (wc : va_W) (o : Option Value) (w1 : va_W) (mc ms : Nat) : Prop := ∀ sz : Nat, Met l y ws rm (Pd D tys av wc sz) (Qd D o w1 (va_A wc sz)) mc ms (va_A wc sz)
def M1 (l : Launch) (y : MethodName) (ws : List Cond) (rm : Room) (D : va_G) (tys : List (ClassId × FieldType)) (av : List Value) (wc : va_W) (ok : Prop) (o : Option Value) (w1 : va_W) (px : String → Prop) (mc ms : Nat) : Prop := ∀ sz : Nat, vx_Met l y ws rm (Pd D tys av wc sz) (fun a st oc t => ok ∧ Qd D o w1 (va_A wc sz) a st oc t) (Xd D px wc (va_A wc sz)) mc ms (va_A wc sz)
def Q0 (below : List Frame) (D : va_G) (o : Option Value) (w1 : va_W) (A : Nat → Prop) (args : Array Value) (s : State) (mc ms : Nat) : State → Prop := MQ below (Qd D o w1 A) args s mc ms A
def Q1 (below : List Frame) (D : va_G) (ok : Prop) (o : Option Value) (w1 : va_W) (px : String → Prop) (wc : va_W) (A : Nat → Prop) (args : Array Value) (s : State) (mc ms : Nat) : State → Prop := vx_MQ below (fun a st oc t => ok ∧ Qd D o w1 A a st oc t) (Xd D px wc A) args s mc ms A
/-- what a body has at hand -/
def Bd (p : Program) (s : State) (m : MethodId) (meth : Method) (c : Code) (y : MethodName) (cc : ByteArray) (maxL : Nat) (ret : Option FieldType) (args : Array Value) (ws : List Cond) (D : va_G) (tys : List (ClassId × FieldType)) (A : Nat → Prop) (wc : va_W) : Prop :=
  p.tables.exec = Jvm.exec ∧ c.code = cc ∧ c.maxLocals = maxL ∧ meth.sig.returnType = ret ∧ s.vm.findClass y.cls = some m.cls ∧ (∀ w ∈ ws, w.before args s = true) ∧ meth.locks = false ∧ va_K D vwCl tys s ∧ va_P D vwCl wc s.heap ∧ va_D A wc ∧ (∀ q : Nat, s.heap.size ≤ q → A q) ∧ ST A s ∧ meth.name = y.name
theorem Met_ofF {l : Launch} {y : MethodName} {ws ws' : List Cond} {rm : Room} {Pc : Array Value → State → Prop} {Qc : Array Value → State → Outcome → State → Prop} {mc ms : Nat} {free : Addr → Prop} {cc : ByteArray} {maxL : Nat} {ret : Option FieldType}
    (hy : plainFor y = true) (hw : ws = Cond.code y cc maxL ret :: ws')
    (body : ∀ p e s m args below meth c s₁, BodyLoose p l y (headSpec ws rm) cc maxL ret e s m args below meth c s₁ → c.maxLocals = maxL → Pc args s →
      W p l e (headSpec ws rm).room s m args below meth c s.heap [] 0 0 (MQ below Qc args s mc ms free) (entryFrame m args maxL)) : Met l y ws rm Pc Qc mc ms free := by
  refine MetFree.of_bodySF (code := cc) (maxLocals := maxL) (ret := ret) hy ?_ ?_
  · intro args s m h hn
    obtain ⟨meth, c, h1, h2, h3, h4, h5, h6, -, -⟩ := Cond.code_spec hn (atoms_spec (ws := ws) h _ (by rw [hw]; exact List.mem_cons_self))
    exact ⟨meth, c, h1, h2, h3, h4, h5, h6⟩
  · intro p e s m args below meth c s₁ B hml hP _
    have hh0 : s₁.heap = s.heap := by rw [B.state]; rfl
    obtain ⟨t, a1, o, b1, b2, b3⟩ := body p e s m args below meth c s₁ B hml hP s₁ hh0 (Stand.of_body B)
    exact ⟨t, o, a1, b1, b2, ⟨b3.1, b3.2⟩⟩
theorem M0_of {l : Launch} {y : MethodName} {ws ws' : List Cond} {rm : Room} {D : va_G} {tys : List (ClassId × FieldType)} {av : List Value} {wc : va_W} {o : Option Value} {w1 : va_W} {mc ms : Nat} {cc : ByteArray} {maxL : Nat} {ret : Option FieldType} (hy : plainFor y = true) (hw : ws = .code y cc maxL ret :: ws') (hlen : (lg_sl av).length ≤ maxL)
    (body : ∀ p e s m args below meth c A, Bd p s m meth c y cc maxL ret args ws D tys A wc → ∀ ls, lv_has ls maxL (lv_args 0 av) → W p l e rm s m args below meth c s.heap [] 0 0 (Q0 below D o w1 A args s mc ms) (F0 m 0 ls [])) : M0 l y ws rm D tys av wc o w1 mc ms := by
  intro sz
  refine Met_ofF (cc := cc) (maxL := maxL) (ret := ret) hy hw ?_
  intro p e s m args below meth c s₁ B hml hv
  obtain ⟨rfl, hsz, hP, hK, hD0, hST⟩ := hv
  subst hsz
  have h := body p e s m av.toArray below meth c (va_A wc s.heap.size) ⟨B.exec, B.bytes, hml, B.returns, findClass_of_methodNamed B.named, atoms_spec (ws := ws) B.pre, B.notSynchronized, hK, hP, hD0.self (sz := s.heap.size), fun q h => Or.inr h, hST, (name_of_methodNamed B.named B.method).1⟩ _ (lv_entry av hlen)
  rw [lg_entry_eq]
  exact h
theorem M1_of {l : Launch} {y : MethodName} {ws ws' : List Cond} {rm : Room} {D : va_G} {tys : List (ClassId × FieldType)} {av : List Value} {wc : va_W} {ok : Prop} {o : Option Value} {w1 : va_W} {px : String → Prop} {mc ms : Nat} {cc : ByteArray} {maxL : Nat} {ret : Option FieldType} (hy : plainName y.cls = true) (hw : ws = .code y cc maxL ret :: ws') (hlen : (lg_sl av).length ≤ maxL)
    (body : ∀ p e s m args below meth c A, Bd p s m meth c y cc maxL ret args ws D tys A wc → (∀ x ∈ c.exceptionTable.toList, False) → ∀ ls, lv_has ls maxL (lv_args 0 av) → W p l e rm s m args below meth c s.heap [] 0 0 (Q1 below D ok o w1 px wc A args s mc ms) (F0 m 0 ls [])) : M1 l y ws rm D tys av wc ok o w1 px mc ms := by
  intro sz
  refine vx_ofW (cc := cc) (maxL := maxL) (ret := ret) hy hw ?_
  intro p e s m args below meth c s₁ B hml htab hv
  obtain ⟨rfl, hsz, hP, hK, hD0, hST⟩ := hv
  subst hsz
  have h := body p e s m av.toArray below meth c (va_A wc s.heap.size) ⟨B.exec, B.bytes, hml, B.returns, findClass_of_methodNamed B.named, atoms_spec (ws := ws) B.pre, B.notSynchronized, hK, hP, hD0.self (sz := s.heap.size), fun q h => Or.inr h, hST, (name_of_methodNamed B.named B.method).1⟩ htab _ (lv_entry av hlen)
  rw [lg_entry_eq]
  exact h

section KC
variable {p : Program} {l : Launch} {e : Env} {R : Room} {s : State} {m : MethodId} {args : Array Value} {below : List Frame} {meth : Method} {c : Code} {H : Heap} {locs : List Loc} {cells slots : Nat} {Q : State → Prop}
variable {y : MethodName} {bytes cc : ByteArray} {maxL nL mc ms n index pc : Nat} {ret : Option FieldType} {wsY Ts : List Cond} {rm : Room} {own C host : String} {b : Addr} {As rest st0 st1 av : List Value} {ls : Array Slot}
variable {D : va_G} {tys : List (ClassId × FieldType)} {ws wc w1 ws' : va_W} {o : Option Value} {A : Nat → Prop} {ok : Prop} {px : String → Prop}
theorem pd_blind {sz : Nat} : FrameBlind (Pd D tys av wc sz) := fun a U g mk h => by
  obtain ⟨h1, h2, h3, h4, h5, h6⟩ := h
  refine ⟨h1, h2, h3, va_K.moved (u := U) (U := U.calling g mk a) (Vm.Alike.refl U.vm) h4, h5, ?_⟩
  exact h6
theorem pd_at (hK : va_K D vwCl tys s) (hP : va_P D vwCl ws H) (hD : va_D A ws) (hS : va_S A s.heap H locs) (hA : ∀ q : Nat, s.heap.size ≤ q → A q) (hST : ST A s) (J : Jn ws wc w1 ws') : ∀ U : State, U.heap = H → s.WarmedH U.vm → Pd D tys av wc H.size av.toArray U := fun U hU hW => by
  refine ⟨rfl, by rw [hU], by rw [hU]; exact J.sub hP, va_K.moved hW.alike hK, (J.2.1 A hD).weaken (fun _ _ _ _ => trivial), ?_⟩
  exact hST.call hS hW hU (J.free hD hS hA)
theorem c0_go {a : Array Value} (hr : va_Run p l e R s m args below meth c H locs cells slots mc ms (F0 m pc ls st0) rest (Qd D o w1 (va_A wc H.size) a) (va_A wc H.size)) (hP : va_P D vwCl ws H) (hD : va_D A ws) (hS : va_S A s.heap H locs) (hA : ∀ q : Nat, s.heap.size ≤ q → A q) (J : Jn ws wc w1 ws') (hst : o.toList ++ rest = st1)
    (kk : ∀ (H1 : Heap) (locs1 : List Loc), va_P D vwCl ws' H1 → va_D A ws' → va_S A s.heap H1 locs1 → W p l e R s m args below meth c H1 locs1 (cells + mc) (slots + ms) Q (F0 m (pc + 3) ls st1)) : W p l e R s m args below meth c H locs cells slots Q (F0 m pc ls st0) := by
  intro T hT X
  obtain ⟨v, st₀, t, T', L, h0, X', hL, e1, e2, ⟨hv, hP1, hz, hk⟩, st⟩ := hr T hT X
  cases hv
  rw [h0] at hz hk
  have hF := J.free hD hS hA
  obtain ⟨t2, a1, b1⟩ := kk T'.heap (locs ++ L) (J.P hP hD (by rw [e1]; exact hP1) (fun q h1 h2 => by rw [e1]; exact hk q h1 h2)) (J.2.2.1 A hD)
    ⟨Nat.le_trans hS.1 (by rw [e1]; exact hz), fun q h1 h2 => by rw [e1, hk q (Nat.lt_of_lt_of_le h1 hS.1) (fun z => h2 (hF q z))]; exact hS.2.1 q h1 h2, fun q hq => by
      rcases List.mem_append.mp hq with h | h
      · exact hS.2.2 q h
      · exact hF _ (hL q h)⟩ T' rfl X'
  rw [← hst] at a1
  exact ⟨t2, st t2 a1, b1⟩
theorem c0_V (S : CallFix p m c cc nL s args Ts own) (hM : M0 l y wsY rm D tys (.ref b :: As) wc o w1 mc ms) (cw : CallW R s args own C index y bytes maxL ret wsY rm mc ms n) (hK : va_K D vwCl tys s) (hP : va_P D vwCl ws H) (hD : va_D A ws) (hS : va_S A s.heap H locs) (hA : ∀ q : Nat, s.heap.size ≤ q → A q) (hST : ST A s) (J : Jn ws wc w1 ws')
    (k0 : Nat) {ci : Nat} {q : vw_C} {fs : List Value} (hk0 : wc[k0]? = some (b, .inr (ci, fs))) (hci : vwCl[ci]? = some q) (hq : q.1 = C) (hn : As.length = n) (hsize : ls.size = nL) (hstack : st0 = As.reverse ++ .ref b :: rest) (hW : (rest.map fun v => v.category).sum ≤ 8) (hdg : decode cc pc = .ok (.invokevirtual index, 3)) (hf : cells + mc ≤ R.cells ∧ slots + ms ≤ R.slots) (hst : o.toList ++ rest = st1)
    (kk : ∀ (H1 : Heap) (locs1 : List Loc), va_P D vwCl ws' H1 → va_D A ws' → va_S A s.heap H1 locs1 → W p l e R s m args below meth c H1 locs1 (cells + mc) (slots + ms) Q (F0 m (pc + 3) ls st1)) : W p l e R s m args below meth c H locs cells slots Q (F0 m pc ls st0) := by
  subst hq
  exact c0_go (va_runV S (hM H.size) cw ⟨pd_blind, va_recv hK (J.sub hP) hci hk0, pd_at hK hP hD hS hA hST J⟩ rfl hn hsize hstack (lv_room hW) hdg hf) hP hD hS hA J hst kk
theorem c0_S (S : CallFix p m c cc nL s args Ts own) (hM : M0 l y wsY rm D tys As wc o w1 mc ms) (cw : CallB R s args own index y bytes maxL ret wsY rm mc ms n ∧ (Cond.static y).before args s = true) (hK : va_K D vwCl tys s) (hP : va_P D vwCl ws H) (hD : va_D A ws) (hS : va_S A s.heap H locs) (hA : ∀ q : Nat, s.heap.size ≤ q → A q) (hST : ST A s) (J : Jn ws wc w1 ws')
    (hn : As.length = n) (hsize : ls.size = nL) (hstack : st0 = As.reverse ++ rest) (hW : (rest.map fun v => v.category).sum ≤ 8) (hdg : decode cc pc = .ok (.invokestatic index, 3)) (hf : cells + mc ≤ R.cells ∧ slots + ms ≤ R.slots) (hst : o.toList ++ rest = st1)
    (kk : ∀ (H1 : Heap) (locs1 : List Loc), va_P D vwCl ws' H1 → va_D A ws' → va_S A s.heap H1 locs1 → W p l e R s m args below meth c H1 locs1 (cells + mc) (slots + ms) Q (F0 m (pc + 3) ls st1)) : W p l e R s m args below meth c H locs cells slots Q (F0 m pc ls st0) :=
  c0_go (va_runS S (hM H.size) cw ⟨pd_blind, pd_at hK hP hD hS hA hST J⟩ rfl hn hsize hstack (lv_room hW) hdg hf) hP hD hS hA J hst kk
theorem c0_SN (S : CallFix p m c cc nL s args Ts own) (hM : M0 l y wsY rm D tys As wc o w1 mc ms) (cw : va_CN R s args own index y host bytes maxL ret wsY rm mc ms n ∧ (Cond.static y).before args s = true ∧ True) (hK : va_K D vwCl tys s) (hP : va_P D vwCl ws H) (hD : va_D A ws) (hS : va_S A s.heap H locs) (hA : ∀ q : Nat, s.heap.size ≤ q → A q) (hST : ST A s) (J : Jn ws wc w1 ws')
    (hn : As.length = n) (hsize : ls.size = nL) (hstack : st0 = As.reverse ++ rest) (hW : (rest.map fun v => v.category).sum ≤ 8) (hdg : decode cc pc = .ok (.invokestatic index, 3)) (hf : cells + mc ≤ R.cells ∧ slots + ms ≤ R.slots) (hst : o.toList ++ rest = st1)
    (kk : ∀ (H1 : Heap) (locs1 : List Loc), va_P D vwCl ws' H1 → va_D A ws' → va_S A s.heap H1 locs1 → W p l e R s m args below meth c H1 locs1 (cells + mc) (slots + ms) Q (F0 m (pc + 3) ls st1)) : W p l e R s m args below meth c H locs cells slots Q (F0 m pc ls st0) :=
  c0_go (va_runSN S (hM H.size) cw ⟨pd_blind, pd_at hK hP hD hS hA hST J⟩ rfl hn hsize hstack (lv_room hW) hdg hf) hP hD hS hA J hst kk
theorem c0_I (S : CallFix p m c cc nL s args Ts own) (hM : M0 l y wsY rm D tys (.ref b :: As) wc o w1 mc ms) (cw : CallB R s args own index y bytes maxL none wsY rm mc ms n ∧ y.name = "<init>" ∧ (Cond.instanceMethod y).before args s = true) (hK : va_K D vwCl tys s) (hP : va_P D vwCl ws H) (hD : va_D A ws) (hS : va_S A s.heap H locs) (hA : ∀ q : Nat, s.heap.size ≤ q → A q) (hST : ST A s) (J : Jn ws wc w1 ws')
    (hn : As.length = n) (hsize : ls.size = nL) (hstack : st0 = As.reverse ++ .ref b :: rest) (hW : (rest.map fun v => v.category).sum ≤ 8) (hdg : decode cc pc = .ok (.invokespecial index, 3)) (hf : cells + mc ≤ R.cells ∧ slots + ms ≤ R.slots) (hst : o.toList ++ rest = st1)
    (kk : ∀ (H1 : Heap) (locs1 : List Loc), va_P D vwCl ws' H1 → va_D A ws' → va_S A s.heap H1 locs1 → W p l e R s m args below meth c H1 locs1 (cells + mc) (slots + ms) Q (F0 m (pc + 3) ls st1)) : W p l e R s m args below meth c H locs cells slots Q (F0 m pc ls st0) :=
  c0_go (va_runI S (hM H.size) cw ⟨pd_blind, pd_at hK hP hD hS hA hST J⟩ rfl hn hsize hstack (lv_room hW) hdg hf) hP hD hS hA J hst kk
theorem c0_IN (S : CallFix p m c cc nL s args Ts own) (hM : M0 l y wsY rm D tys (.ref b :: As) wc o w1 mc ms) (cw : va_CN R s args own index y host bytes maxL none wsY rm mc ms n ∧ y.name = "<init>" ∧ (Cond.instanceMethod y).before args s = true) (hK : va_K D vwCl tys s) (hP : va_P D vwCl ws H) (hD : va_D A ws) (hS : va_S A s.heap H locs) (hA : ∀ q : Nat, s.heap.size ≤ q → A q) (hST : ST A s) (J : Jn ws wc w1 ws')
    (hn : As.length = n) (hsize : ls.size = nL) (hstack : st0 = As.reverse ++ .ref b :: rest) (hW : (rest.map fun v => v.category).sum ≤ 8) (hdg : decode cc pc = .ok (.invokespecial index, 3)) (hf : cells + mc ≤ R.cells ∧ slots + ms ≤ R.slots) (hst : o.toList ++ rest = st1)
    (kk : ∀ (H1 : Heap) (locs1 : List Loc), va_P D vwCl ws' H1 → va_D A ws' → va_S A s.heap H1 locs1 → W p l e R s m args below meth c H1 locs1 (cells + mc) (slots + ms) Q (F0 m (pc + 3) ls st1)) : W p l e R s m args below meth c H locs cells slots Q (F0 m pc ls st0) :=
  c0_go (va_runIN S (hM H.size) cw ⟨pd_blind, pd_at hK hP hD hS hA hST J⟩ rfl hn hsize hstack (lv_room hW) hdg hf) hP hD hS hA J hst kk
/-! a callee that may throw -/
theorem c1_go {a : Array Value} (hr : vx_Run p l e R s m args below meth c H locs cells slots mc ms (F0 m pc ls st0) rest (fun st oc t => ok ∧ Qd D o w1 (va_A wc H.size) a st oc t) (Xd D px wc (va_A wc H.size)) (va_A wc H.size)) (hP : va_P D vwCl ws H) (hD : va_D A ws) (hS : va_S A s.heap H locs) (hA : ∀ q : Nat, s.heap.size ≤ q → A q) (J : Jn ws wc w1 ws') (J0 : Jn ws wc wc ws) (hst : o.toList ++ rest = st1)
    (kx : ∀ (E : String) (ce : Cell) (q9 : Addr) (H1 : Heap) (locs1 : List Loc), px E → va_P D vwCl ws H1 → va_S A s.heap H1 locs1 → H1[q9]? = some ce → ce.vm = .none → s.vm.findClass E = some ce.cls → vx_W p l e R s m args below meth c H1 locs1 (cells + mc) (slots + ms) Q (F0 m pc ls rest) q9)
    (kk : ok → ∀ (H1 : Heap) (locs1 : List Loc), va_P D vwCl ws' H1 → va_D A ws' → va_S A s.heap H1 locs1 → W p l e R s m args below meth c H1 locs1 (cells + mc) (slots + ms) Q (F0 m (pc + 3) ls st1)) : W p l e R s m args below meth c H locs cells slots Q (F0 m pc ls st0) := by
  intro T hT X
  have hF := J.free hD hS hA
  rcases hr T hT X with ⟨v, st₀, t, T', L, h0, X', hL, e1, e2, ⟨hok, hv, hP1, hz, hk⟩, st⟩ | ⟨q, st₀, t, T', L, E, ce, h0, X', hL, e1, e2, ⟨hp, hP1, hz, hk⟩, hce, hcv, hcl, st⟩
  · cases hv
    rw [h0] at hz hk
    obtain ⟨t2, a1, b1⟩ := kk hok T'.heap (locs ++ L) (J.P hP hD (by rw [e1]; exact hP1) (fun q h1 h2 => by rw [e1]; exact hk q h1 h2)) (J.2.2.1 A hD)
      ⟨Nat.le_trans hS.1 (by rw [e1]; exact hz), fun q h1 h2 => by rw [e1, hk q (Nat.lt_of_lt_of_le h1 hS.1) (fun z => h2 (hF q z))]; exact hS.2.1 q h1 h2, fun q hq => by
        rcases List.mem_append.mp hq with h | h
        · exact hS.2.2 q h
        · exact hF _ (hL q h)⟩ T' rfl X'
    rw [← hst] at a1
    exact ⟨t2, st t2 a1, b1⟩
  · rw [h0] at hz hk
    obtain ⟨t2, a1, b1⟩ := kx E ce q T'.heap (locs ++ L) hp (J0.P hP hD (by rw [e1]; exact hP1) (fun q h1 h2 => by rw [e1]; exact hk q h1 h2))
      ⟨Nat.le_trans hS.1 (by rw [e1]; exact hz), fun q h1 h2 => by rw [e1, hk q (Nat.lt_of_lt_of_le h1 hS.1) (fun z => h2 (hF q z))]; exact hS.2.1 q h1 h2, fun q hq => by
        rcases List.mem_append.mp hq with h | h
        · exact hS.2.2 q h
        · exact hF _ (hL q h)⟩ (by rw [e1]; exact hce) hcv hcl T' rfl X'
    exact ⟨t2, st.trans a1, b1⟩
theorem c1_V (S : CallFix p m c cc nL s args Ts own) (hM : M1 l y wsY rm D tys (.ref b :: As) wc ok o w1 px mc ms) (cw : CallW R s args own C index y bytes maxL ret wsY rm mc ms n) (hK : va_K D vwCl tys s) (hP : va_P D vwCl ws H) (hD : va_D A ws) (hS : va_S A s.heap H locs) (hA : ∀ q : Nat, s.heap.size ≤ q → A q) (hST : ST A s) (J : Jn ws wc w1 ws') (J0 : Jn ws wc wc ws)
    (k0 : Nat) {ci : Nat} {q : vw_C} {fs : List Value} (hk0 : wc[k0]? = some (b, .inr (ci, fs))) (hci : vwCl[ci]? = some q) (hq : q.1 = C) (hn : As.length = n) (hsize : ls.size = nL) (hstack : st0 = As.reverse ++ .ref b :: rest) (hW : (rest.map fun v => v.category).sum ≤ 8) (hdg : decode cc pc = .ok (.invokevirtual index, 3)) (hf : cells + mc ≤ R.cells ∧ slots + ms ≤ R.slots) (hst : o.toList ++ rest = st1)
    (kx : ∀ (E : String) (ce : Cell) (q9 : Addr) (H1 : Heap) (locs1 : List Loc), px E → va_P D vwCl ws H1 → va_S A s.heap H1 locs1 → H1[q9]? = some ce → ce.vm = .none → s.vm.findClass E = some ce.cls → vx_W p l e R s m args below meth c H1 locs1 (cells + mc) (slots + ms) Q (F0 m pc ls rest) q9)
    (kk : ok → ∀ (H1 : Heap) (locs1 : List Loc), va_P D vwCl ws' H1 → va_D A ws' → va_S A s.heap H1 locs1 → W p l e R s m args below meth c H1 locs1 (cells + mc) (slots + ms) Q (F0 m (pc + 3) ls st1)) : W p l e R s m args below meth c H locs cells slots Q (F0 m pc ls st0) := by
  subst hq
  exact c1_go (vx_runV S (hM H.size) cw ⟨pd_blind, va_recv hK (J.sub hP) hci hk0, pd_at hK hP hD hS hA hST J⟩ rfl hn hsize hstack (lv_room hW) hdg hf) hP hD hS hA J J0 hst kx kk
theorem c1_S (S : CallFix p m c cc nL s args Ts own) (hM : M1 l y wsY rm D tys As wc ok o w1 px mc ms) (cw : CallB R s args own index y bytes maxL ret wsY rm mc ms n ∧ (Cond.static y).before args s = true) (hK : va_K D vwCl tys s) (hP : va_P D vwCl ws H) (hD : va_D A ws) (hS : va_S A s.heap H locs) (hA : ∀ q : Nat, s.heap.size ≤ q → A q) (hST : ST A s) (J : Jn ws wc w1 ws') (J0 : Jn ws wc wc ws)
    (hn : As.length = n) (hsize : ls.size = nL) (hstack : st0 = As.reverse ++ rest) (hW : (rest.map fun v => v.category).sum ≤ 8) (hdg : decode cc pc = .ok (.invokestatic index, 3)) (hf : cells + mc ≤ R.cells ∧ slots + ms ≤ R.slots) (hst : o.toList ++ rest = st1)
    (kx : ∀ (E : String) (ce : Cell) (q9 : Addr) (H1 : Heap) (locs1 : List Loc), px E → va_P D vwCl ws H1 → va_S A s.heap H1 locs1 → H1[q9]? = some ce → ce.vm = .none → s.vm.findClass E = some ce.cls → vx_W p l e R s m args below meth c H1 locs1 (cells + mc) (slots + ms) Q (F0 m pc ls rest) q9)
    (kk : ok → ∀ (H1 : Heap) (locs1 : List Loc), va_P D vwCl ws' H1 → va_D A ws' → va_S A s.heap H1 locs1 → W p l e R s m args below meth c H1 locs1 (cells + mc) (slots + ms) Q (F0 m (pc + 3) ls st1)) : W p l e R s m args below meth c H locs cells slots Q (F0 m pc ls st0) :=
  c1_go (vx_runS S (hM H.size) cw ⟨pd_blind, pd_at hK hP hD hS hA hST J⟩ rfl hn hsize hstack (lv_room hW) hdg hf) hP hD hS hA J J0 hst kx kk
/-! ends -/
theorem qd_end {t : State} (hP : va_P D vwCl w1 H) (hS : va_S A s.heap H locs) (ht : t.heap = H) : Qd D o w1 A args s (.returned o) t := ⟨rfl, by rw [ht]; exact hP, hS.F ht⟩
theorem e0_i {v : Int32} (hx : p.tables.exec = Jvm.exec) (hb : c.code = cc) (hr : meth.sig.returnType = some .int) (hlocks : meth.locks = false) (hP : va_P D vwCl w1 H) (hS : va_S A s.heap H locs) (hdg : decode cc pc = .ok (.ireturn, 1)) (hc : cells ≤ mc) (hs : slots ≤ ms) (ho : o = some (.int v)) :
    W p l e R s m args below meth c H locs cells slots (Q0 below D o w1 A args s mc ms) (F0 m pc ls [.int v]) := by
  subst ho
  exact W.widen hc hs (W.iret hx hb hr (fun t ht _ => qd_end hP hS ht) hS.2.2 hdg)
theorem e0_z {v : Int32} (hx : p.tables.exec = Jvm.exec) (hb : c.code = cc) (hr : meth.sig.returnType = some .boolean) (hlocks : meth.locks = false) (hP : va_P D vwCl w1 H) (hS : va_S A s.heap H locs) (hdg : decode cc pc = .ok (.ireturn, 1)) (hn : narrow .boolean (.int v) = .int v) (hc : cells ≤ mc) (hs : slots ≤ ms) (ho : o = some (.int v)) :
    W p l e R s m args below meth c H locs cells slots (Q0 below D o w1 A args s mc ms) (F0 m pc ls [.int v]) := by
  subst ho
  exact W.widen hc hs (W.zret hx hb hr hn (fun t ht _ => qd_end hP hS ht) hS.2.2 hdg)
theorem e0_v (hx : p.tables.exec = Jvm.exec) (hb : c.code = cc) (hr : meth.sig.returnType = none) (hlocks : meth.locks = false) (hP : va_P D vwCl w1 H) (hS : va_S A s.heap H locs) (hdg : decode cc pc = .ok (.return_, 1)) (hc : cells ≤ mc) (hs : slots ≤ ms) (ho : o = none) :
    W p l e R s m args below meth c H locs cells slots (Q0 below D o w1 A args s mc ms) (F0 m pc ls []) := by
  subst ho
  exact W.widen hc hs (W.vret hx hb hr (fun t ht _ => qd_end hP hS ht) hS.2.2 hdg)
theorem e0_l {v : Int64} (hx : p.tables.exec = Jvm.exec) (hb : c.code = cc) (hr : meth.sig.returnType = some .long) (hlocks : meth.locks = false) (hP : va_P D vwCl w1 H) (hS : va_S A s.heap H locs) (hdg : decode cc pc = .ok (.lreturn, 1)) (hc : cells ≤ mc) (hs : slots ≤ ms) (ho : o = some (.long v)) :
    W p l e R s m args below meth c H locs cells slots (Q0 below D o w1 A args s mc ms) (F0 m pc ls [.long v]) := by
  subst ho
  exact W.widen hc hs (W.lret hx hb hr (fun t ht _ => qd_end hP hS ht) hS.2.2 hdg)
theorem e1_i {v : Int32} (hx : p.tables.exec = Jvm.exec) (hb : c.code = cc) (hr : meth.sig.returnType = some .int) (hlocks : meth.locks = false) (hok : ok) (hP : va_P D vwCl w1 H) (hS : va_S A s.heap H locs) (hdg : decode cc pc = .ok (.ireturn, 1)) (hc : cells ≤ mc) (hs : slots ≤ ms) (ho : o = some (.int v)) :
    W p l e R s m args below meth c H locs cells slots (Q1 below D ok o w1 px wc A args s mc ms) (F0 m pc ls [.int v]) := by
  subst ho
  exact W.widen hc hs (vx_ret (W.iret hx hb hr (fun t ht _ => ⟨hok, qd_end hP hS ht⟩) hS.2.2 hdg))
theorem e1_v (hx : p.tables.exec = Jvm.exec) (hb : c.code = cc) (hr : meth.sig.returnType = none) (hlocks : meth.locks = false) (hok : ok) (hP : va_P D vwCl w1 H) (hS : va_S A s.heap H locs) (hdg : decode cc pc = .ok (.return_, 1)) (hc : cells ≤ mc) (hs : slots ≤ ms) (ho : o = none) :
    W p l e R s m args below meth c H locs cells slots (Q1 below D ok o w1 px wc A args s mc ms) (F0 m pc ls []) := by
  subst ho
  exact W.widen hc hs (vx_ret (W.vret hx hb hr (fun t ht _ => ⟨hok, qd_end hP hS ht⟩) hS.2.2 hdg))
theorem e1_a {x : Addr} {rt : FieldType} (hx : p.tables.exec = Jvm.exec) (hb : c.code = cc) (hr : meth.sig.returnType = some rt) (hrt : ∃ n, rt = .object n) (hlocks : meth.locks = false) (hok : ok) (hP : va_P D vwCl w1 H) (hS : va_S A s.heap H locs) (hdg : decode cc pc = .ok (.areturn, 1)) (hc : cells ≤ mc) (hs : slots ≤ ms) (ho : o = some (.ref x)) :
    W p l e R s m args below meth c H locs cells slots (Q1 below D ok o w1 px wc A args s mc ms) (F0 m pc ls [.ref x]) := by
  subst ho
  exact W.widen hc hs (vx_ret (W.aret hx hb hr (Or.inl hrt) (Or.inr ⟨_, rfl⟩) (fun t ht _ => ⟨hok, qd_end hP hS ht⟩) hS.2.2 hdg))
/-- throw new E("text") in a method of the class -/
theorem vg_1 : ∀ w ∈ (vx_atS RX3 23 IOOBE XN).filter (fun w => !goodWord w), w ∈ [Cond.declares (Bundle.initS "java/lang/RuntimeException"), .declares (Bundle.initS "java/lang/Exception"), .declares (Bundle.initS Bundle.tN), .castable IOOBE IOOBE] := by decide +kernel
theorem vg_2 : ∀ w ∈ (vx_atS RX3 30 IAE XN).filter (fun w => !goodWord w), w ∈ [Cond.declares (Bundle.initS "java/lang/RuntimeException"), .declares (Bundle.initS "java/lang/Exception"), .declares (Bundle.initS Bundle.tN), .castable IAE IAE] := by decide +kernel
theorem vg_3 : ∀ w ∈ (vx_atS RX3 59 ISE XN).filter (fun w => !goodWord w), w ∈ [Cond.declares (Bundle.initS "java/lang/RuntimeException"), .declares (Bundle.initS "java/lang/Exception"), .declares (Bundle.initS Bundle.tN), .castable ISE ISE] := by decide +kernel
theorem vo_1 : ∀ w ∈ Cond.classLink RX3 19 IOOBE :: Cond.initialized IOOBE :: vx_atS RX3 23 IOOBE XN, vx_ot w = true := by decide +kernel
theorem vo_2 : ∀ w ∈ Cond.classLink RX3 26 IAE :: Cond.initialized IAE :: vx_atS RX3 30 IAE XN, vx_ot w = true := by decide +kernel
theorem vo_3 : ∀ w ∈ Cond.classLink RX3 55 ISE :: Cond.initialized ISE :: vx_atS RX3 59 ISE XN, vx_ot w = true := by decide +kernel
theorem xn_fit : ∀ n ∈ XN, Bundle.fit n = true := by decide +kernel
theorem e1_throw {cls text : String} {ik is ic : Nat} (hx : p.tables.exec = Jvm.exec) (hb : c.code = cc) (hl : l.stackTraces = false) (hown : s.vm.findClass RX3 = some m.cls) (hts : ∀ w ∈ Ts, w.before args s = true) (hcls : Bundle.fit cls = true)
    (hk : Cond.classLink RX3 ik cls ∈ Ts) (hini : Cond.initialized cls ∈ Ts) (hgd : ∀ w ∈ (vx_atS RX3 ic cls XN).filter goodWord, w ∈ Ts)
    (hng : ∀ w ∈ (vx_atS RX3 ic cls XN).filter (fun w => !goodWord w), w ∈ [Cond.declares (Bundle.initS "java/lang/RuntimeException"), .declares (Bundle.initS "java/lang/Exception"), .declares (Bundle.initS Bundle.tN), .castable cls cls])
    (hot : ∀ w ∈ Cond.classLink RX3 ik cls :: Cond.initialized cls :: vx_atS RX3 ic cls XN, vx_ot w = true) (hca : cls ∈ CA) (hST : ST A s) (hstr : (is, text) ∈ STR) (hS : va_S A s.heap H locs) (hsize : ls.size = c.maxLocals)
    (d0 : decode cc pc = .ok (.new ik, 3)) (d3 : decode cc (pc + 3) = .ok (.dup, 1)) (d4 : decode cc (pc + 4) = .ok (.ldc is, 2)) (d6 : decode cc (pc + 6) = .ok (.invokespecial ic, 3)) (d9 : decode cc (pc + 9) = .ok (.athrow, 1))
    (htab : ∀ x ∈ c.exceptionTable.toList, False) (hRframes : 5 < R.frames) (hRlocals : (rest.map fun v => v.category).sum + 82 ≤ R.locals) (hRcells : cells + 1 ≤ R.cells) (hRslots : slots + 6 ≤ R.slots) (hlocks : meth.locks = false)
    (hE : px cls) (hP : va_P D vwCl wc H) (hc : cells + 1 ≤ mc) (hs : slots + 6 ≤ ms) :
    W p l e R s m args below meth c H locs cells slots (Q1 below D ok o w1 px wc A args s mc ms) (F0 m pc ls rest) := by
  obtain ⟨h1, h2, h3, h4, h5, h5d, h6, h7, -⟩ := hST
  obtain ⟨sa, hsa⟩ := h3 _ hstr
  have hB : ∀ w ∈ [Cond.declares (Bundle.initS "java/lang/RuntimeException"), .declares (Bundle.initS "java/lang/Exception"), .declares (Bundle.initS Bundle.tN), .castable cls cls], w.before args s = true :=
    vx_c (va_Nw.use rfl (h5d _ (by simp [DC]))) (vx_c (va_Nw.use rfl (h5d _ (by simp [DC]))) (vx_c (va_Nw.use rfl (h5d _ (by simp [DC]))) (vx_c (va_Nw.use rfl (h5 _ hca)) vx_n)))
  refine vx_throwS (names := XN) (A := A) hx hb hl hown hcls xn_fit (hts _ hk) (hts _ hini) hsa (vx_hat (fun w hw => hts w (hgd w hw)) hng hB) hot h6 h7 hS hsize d0 d3 d4 d6 d9 (fun x hx => absurd (htab x hx) id) hRframes (by simpa using hRlocals) hRcells hRslots hlocks ?_ hS.2.2 hc hs
  intro t hvm hz hk9
  refine ⟨hE, hP.kept (fun k q hq => hk9 _ (hP k q hq).lt), Nat.le_trans hS.1 hz, fun q hq hn => ?_⟩
  rw [hk9 q (Nat.lt_of_lt_of_le hq hS.1)]
  exact hS.2.1 q hq hn
/-- a callee's exception goes on to the caller -/
theorem e1_out {E : String} {ce : Cell} {q9 : Addr} (htab : ∀ x ∈ c.exceptionTable.toList, False) (hlocks : meth.locks = false) (hE : px E) (hP : va_P D vwCl wc H) (hS : va_S A s.heap H locs) (hce : H[q9]? = some ce) (hcv : ce.vm = .none) (hcl : s.vm.findClass E = some ce.cls) (hc : cells ≤ mc) (hs : slots ≤ ms) :
    vx_W p l e R s m args below meth c H locs cells slots (Q1 below D ok o w1 px wc A args s mc ms) (F0 m pc ls rest) q9 :=
  vx_out (fun x hx => absurd (htab x hx) id) hlocks hce hcv hcl (fun t ht _ => ⟨hE, by rw [ht]; exact hP, hS.F ht⟩) hS.2.2 hc hs
end KC
