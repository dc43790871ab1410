/-! contracts whose answer and whose world may be new; with something more that is known of the start (the script) -/
theorem P_pm {D : va_G} {ws ws' : va_W} {H : Heap} (hp : ws.Perm ws') (h : va_P D vwCl ws H) : va_P D vwCl ws' H := fun k q hq => by
  obtain ⟨j, hj⟩ := List.getElem?_of_mem (hp.mem_iff.mpr (List.mem_of_getElem? hq))
  exact h j q hj
theorem D_pm {A : Nat → Prop} {ws ws' : va_W} (hp : ws.Perm ws') (h : va_D A ws) : va_D A ws' := by
  obtain ⟨h1, h2⟩ := dn_of h
  exact dn_to ((hp.map _).nodup_iff.mp h1) (fun q hq => h2 q (hp.mem_iff.mpr hq))
/-- a part of a world, what is left over behind it -/
theorem P_cut {D : va_G} {ws w X : va_W} {H : Heap} (hp : ws.Perm (w ++ X)) (h : va_P D vwCl ws H) : va_P D vwCl w H := fun k q hq => P_pm hp h k q (by rw [List.getElem?_append_left (List.getElem?_eq_some_iff.mp hq).1]; exact hq)
theorem D_cut {A : Nat → Prop} {ws w X : va_W} (hp : ws.Perm (w ++ X)) (h : va_D A ws) : va_D A w := by
  obtain ⟨h1, h2⟩ := dn_of (D_pm hp h)
  rw [List.map_append, List.nodup_append] at h1
  exact dn_to h1.1 (fun q hq => h2 q (List.mem_append_left _ hq))
theorem pm_new (e X : va_W) (c : Nat × va_E) : ((e ++ X) ++ [c]).Perm ((e ++ [c]) ++ X) := by
  rw [List.append_assoc, List.append_assoc]
  exact List.perm_append_comm.append_left e
def E0 : (Nat → Prop) → State → Prop := fun _ _ => True
def ES (b L : Nat) (xs : Nat → Int32) : (Nat → Prop) → State → Prop := fun A U => b < U.heap.size ∧ ¬ A b ∧ va_X b L xs U U.heap
def Qx (D : va_G) (B : Option Value → va_W → Prop) (A : Nat → Prop) : Array Value → State → Outcome → State → Prop := fun _ st oc t => (∃ o w1, oc = .returned o ∧ B o w1 ∧ va_P D vwCl w1 t.heap ∧ va_D A w1) ∧ va_F A st t
def Px (E : (Nat → Prop) → State → Prop) (D : va_G) (tys : List (ClassId × FieldType)) (av : List Value) (wc : va_W) (sz : Nat) : Array Value → State → Prop := va_Pc av (fun U => (U.heap.size = sz ∧ va_P D vwCl wc U.heap ∧ va_K D vwCl tys U ∧ va_D (fun _ => True) wc ∧ ST (va_A wc sz) U) ∧ E (va_A wc sz) U)
def MX (l : Launch) (y : MethodName) (ws : List Cond) (rm : Room) (E : (Nat → Prop) → State → Prop) (D : va_G) (tys : List (ClassId × FieldType)) (av : List Value) (wc : va_W) (B : Option Value → va_W → Prop) (mc ms : Nat) : Prop := ∀ sz : Nat, Met l y ws rm (Px E D tys av wc sz) (Qx D B (va_A wc sz)) mc ms (va_A wc sz)
def QX (below : List Frame) (D : va_G) (B : Option Value → va_W → Prop) (A : Nat → Prop) (args : Array Value) (s : State) (mc ms : Nat) : State → Prop := MQ below (Qx D B A) args s mc ms A
theorem MX_of {l : Launch} {y : MethodName} {ws ws' : List Cond} {rm : Room} {E : (Nat → Prop) → State → Prop} {D : va_G} {tys : List (ClassId × FieldType)} {av : List Value} {wc : va_W} {B : Option Value → va_W → Prop} {mc ms : Nat} {cc : ByteArray} {maxL : Nat} {ret : Option FieldType} (hy : plainFor y = true) (hw : ws = .code y cc maxL ret :: ws') (hlen : (lg_sl av).length ≤ maxL)
    (body : ∀ p e s m args below meth c A, Bd p s m meth c y cc maxL ret args ws D tys A wc → E A s → ∀ ls, lv_has ls maxL (lv_args 0 av) → W p l e rm s m args below meth c s.heap [] 0 0 (QX below D B A args s mc ms) (F0 m 0 ls [])) : MX l y ws rm E D tys av wc B mc ms := by
  intro sz
  refine Met_ofF (cc := cc) (maxL := maxL) (ret := ret) hy hw ?_
  intro p e s m args below meth c s₁ B9 hml hv
  obtain ⟨rfl, ⟨hsz, hP, hK, hD0, hST⟩, hE⟩ := hv
  subst hsz
  have h := body p e s m av.toArray below meth c (va_A wc s.heap.size) ⟨B9.exec, B9.bytes, hml, B9.returns, findClass_of_methodNamed B9.named, atoms_spec (ws := ws) B9.pre, B9.notSynchronized, hK, hP, hD0.self (sz := s.heap.size), fun q h => Or.inr h, hST, (name_of_methodNamed B9.named B9.method).1⟩ hE _ (lv_entry av hlen)
  rw [lg_entry_eq]
  exact h
theorem MX_ofH {l : Launch} {y : MethodName} {ws ws' : List Cond} {rm : Room} {E : (Nat → Prop) → State → Prop} {D : va_G} {tys : List (ClassId × FieldType)} {av : List Value} {wc : va_W} {B : Option Value → va_W → Prop} {mc ms : Nat} {cc : ByteArray} {maxL : Nat} {ret : Option FieldType} {hh : List (Nat × Nat × Nat × Nat)} (hy : plainName y.cls = true) (hw : ws = .codeWith y cc maxL ret hh :: ws') (hlen : (lg_sl av).length ≤ maxL)
    (body : ∀ p e s m args below meth c A, Bd p s m meth c y cc maxL ret args ws D tys A wc → E A s → c.exceptionTable.toList = tableOf hh → ∀ ls, lv_has ls maxL (lv_args 0 av) → W p l e rm s m args below meth c s.heap [] 0 0 (QX below D B A args s mc ms) (F0 m 0 ls [])) : MX l y ws rm E D tys av wc B mc ms := by
  intro sz
  refine MetFree.of_bodyS (code := cc) (maxLocals := maxL) (ret := ret) hy ?_ ?_
  · intro args s m h hn
    obtain ⟨m9, meth, c, hn9, h1, h2, h3, h4, -, h5, h6, -⟩ := Cond.codeWith_spec (atoms_spec (ws := ws) h _ (by rw [hw]; exact List.mem_cons_self))
    cases hn.symm.trans hn9
    exact ⟨meth, c, h1, h2, h3, h4, h5, h6⟩
  · intro p e s m args below meth c s₁ B9 hml hv _
    have hh0 : s₁.heap = s.heap := by rw [B9.state]; rfl
    have htab : c.exceptionTable.toList = tableOf hh := vx_table (x := y) B9 (atoms_spec (ws := ws) B9.pre _ (by rw [hw]; exact List.mem_cons_self))
    obtain ⟨rfl, ⟨hsz, hP, hK, hD0, hST⟩, hE⟩ := hv
    subst hsz
    have h := body p e s m av.toArray below meth c (va_A wc s.heap.size) ⟨B9.exec, B9.bytes, hml, B9.returns, findClass_of_methodNamed B9.named, atoms_spec (ws := ws) B9.pre, B9.notSynchronized, hK, hP, hD0.self (sz := s.heap.size), fun q h => Or.inr h, hST, (name_of_methodNamed B9.named B9.method).1⟩ hE htab _ (lv_entry av hlen)
    have h2 := h s₁ hh0 (Stand.of_body B9)
    obtain ⟨t, a1, o9, b1, b2, b3⟩ := h2
    rw [← lg_entry_eq] at a1
    exact ⟨t, o9, a1, b1, b2, b3.1, b3.2⟩
section KX
variable {p : Program} {l : Launch} {e : Env} {R : Room} {s : State} {m : MethodId} {args : Array Value} {below : List Frame} {meth : Method} {c : Code} {H : Heap} {locs : List Loc} {cells slots : Nat} {Q : State → Prop}
variable {y : MethodName} {bytes cc : ByteArray} {maxL nL mc ms n index pc : Nat} {ret : Option FieldType} {wsY Ts : List Cond} {rm : Room} {own C host : String} {b : Addr} {As rest st0 st1 av : List Value} {ls : Array Slot}
variable {D : va_G} {tys : List (ClassId × FieldType)} {ws wc w1 ws' L : va_W} {o : Option Value} {A : Nat → Prop} {B : Option Value → va_W → Prop} {a : Nat} {cA : ClassId} {E : (Nat → Prop) → State → Prop}
theorem px_blind0 {sz : Nat} : FrameBlind (Px E0 D tys av wc sz) := fun a U g mk h => by
  obtain ⟨h1, ⟨h2, h3, h4, h5, h6⟩, -⟩ := h
  refine ⟨h1, ⟨h2, h3, va_K.moved (u := U) (U := U.calling g mk a) (Vm.Alike.refl U.vm) h4, h5, ?_⟩, trivial⟩
  exact h6
theorem px_blindS {sz b9 L9 : Nat} {xs : Nat → Int32} : FrameBlind (Px (ES b9 L9 xs) D tys av wc sz) := fun a U g mk h => by
  obtain ⟨h1, ⟨h2, h3, h4, h5, h6⟩, h7⟩ := h
  refine ⟨h1, ⟨h2, h3, va_K.moved (u := U) (U := U.calling g mk a) (Vm.Alike.refl U.vm) h4, h5, ?_⟩, ?_⟩
  · exact h6
  · exact h7
theorem px_at (hK : va_K D vwCl tys s) (hP : va_P D vwCl (L ++ wc) H) (hD : va_D A (L ++ wc)) (hS : va_S A s.heap H locs) (hA : ∀ q : Nat, s.heap.size ≤ q → A q) (hST : ST A s) (hE : ∀ U : State, U.heap = H → s.WarmedH U.vm → E (va_A wc H.size) U) : ∀ U : State, U.heap = H → s.WarmedH U.vm → Px E D tys av wc H.size av.toArray U := fun U hU hW => by
  have J : Jn (L ++ wc) wc wc (L ++ wc) := Jn_tail L wc wc rfl
  refine ⟨rfl, ⟨by rw [hU], by rw [hU]; exact J.sub hP, va_K.moved hW.alike hK, (J.2.1 A hD).weaken (fun _ _ _ _ => trivial), ?_⟩, hE U hU hW⟩
  exact hST.call hS hW hU (J.free hD hS hA)
theorem es_at {b9 L9 : Nat} {xs : Nat → Int32} (hX : va_X b9 L9 xs s s.heap) (hbl : b9 < s.heap.size) (hbA : ¬ A b9) (hD : va_D A (L ++ wc)) (hS : va_S A s.heap H locs) (hA : ∀ q : Nat, s.heap.size ≤ q → A q) : ∀ U : State, U.heap = H → s.WarmedH U.vm → ES b9 L9 xs (va_A wc H.size) U := fun U hU hW => by
  have J : Jn (L ++ wc) wc wc (L ++ wc) := Jn_tail L wc wc rfl
  refine ⟨by rw [hU]; exact Nat.lt_of_lt_of_le hbl hS.1, fun h => hbA (J.free hD hS hA b9 h), ?_⟩
  rw [hU]
  exact (hX.kept (hS.2.1 b9 hbl hbA)).moved hW.alike
theorem cX_go {a : Array Value} (hr : va_Run p l e R s m args below meth c H locs cells slots mc ms (F0 m pc ls st0) rest (Qx D B (va_A wc H.size) a) (va_A wc H.size)) (hP : va_P D vwCl (L ++ wc) H) (hD : va_D A (L ++ wc)) (hS : va_S A s.heap H locs) (hA : ∀ q : Nat, s.heap.size ≤ q → A q)
    (kk : ∀ (o : Option Value) (w1 : va_W), B o w1 → ∀ (H1 : Heap) (locs1 : List Loc), va_P D vwCl (L ++ w1) H1 → va_D A (L ++ w1) → va_S A s.heap H1 locs1 → W p l e R s m args below meth c H1 locs1 (cells + mc) (slots + ms) Q (F0 m (pc + 3) ls (o.toList ++ rest))) : W p l e R s m args below meth c H locs cells slots Q (F0 m pc ls st0) := by
  intro T hT X
  obtain ⟨v, st₀, t, T', Ls, h0, X', hL, e1, e2, ⟨⟨o, w1, hv, hB, hP1, hD1⟩, hz, hk⟩, st⟩ := hr T hT X
  cases hv
  rw [h0] at hz hk
  have J : Jn (L ++ wc) wc wc (L ++ wc) := Jn_tail L wc wc rfl
  have hF := J.free hD hS hA
  obtain ⟨n1, n2⟩ := dn_of hD
  simp only [List.map_append, List.nodup_append] at n1
  have hap : ∀ q ∈ L, q.1 < H.size ∧ ¬ va_A wc H.size q.1 := by
    intro q hq
    obtain ⟨k, hk9⟩ := List.getElem?_of_mem (List.mem_append_left wc hq)
    have hl := (hP k q hk9).lt
    refine ⟨hl, ?_⟩
    rintro (⟨i, e, hi⟩ | hi)
    · exact n1.2.2 q.1 (List.mem_map.mpr ⟨q, hq, rfl⟩) q.1 (List.mem_map.mpr ⟨(q.1, e), List.mem_of_getElem? hi, rfl⟩) rfl
    · omega
  obtain ⟨m1, m2⟩ := dn_of hD1
  obtain ⟨t2, a1, b1⟩ := kk v w1 hB T'.heap (locs ++ Ls)
    (by
      intro k q hq
      rcases List.mem_append.mp (List.mem_of_getElem? hq) with h | h
      · obtain ⟨g1, g2⟩ := hap q h
        obtain ⟨k2, hk2⟩ := List.getElem?_of_mem (List.mem_append_left wc h)
        refine (hP k2 q hk2).kept ?_
        rw [e1]
        exact hk q.1 g1 g2
      · obtain ⟨k2, hk2⟩ := List.getElem?_of_mem h
        rw [e1]
        exact hP1 k2 q hk2)
    (by
      refine dn_to ?_ (fun q hq => ?_)
      · simp only [List.map_append, List.nodup_append]
        refine ⟨n1.1, m1, fun x hx z hz9 he => ?_⟩
        obtain ⟨q, hq, rfl⟩ := List.mem_map.mp hx
        obtain ⟨r, hr9, rfl⟩ := List.mem_map.mp hz9
        exact (hap q hq).2 (by rw [he]; exact m2 r hr9)
      · rcases List.mem_append.mp hq with h | h
        · exact n2 q (List.mem_append_left _ h)
        · exact hF _ (m2 q h))
    ⟨Nat.le_trans hS.1 (by rw [e1]; exact hz), fun q h1 h2 => by rw [e1, hk q (Nat.lt_of_lt_of_le h1 hS.1) (fun z => h2 (hF q z))]; exact hS.2.1 q h1 h2, fun q hq => by
      rcases List.mem_append.mp hq with h | h
      · exact hS.2.2 q h
      · exact hF _ (hL q h)⟩ T' rfl X'
  exact ⟨t2, st t2 a1, b1⟩
theorem cX_V (S : CallFix p m c cc nL s args Ts own) (hM : MX l y wsY rm E D tys (.ref b :: As) wc B mc ms) (hbl : ∀ sz, FrameBlind (Px E D tys (.ref b :: As) wc sz)) (cw : CallW R s args own C index y bytes maxL ret wsY rm mc ms n) (hK : va_K D vwCl tys s) (pm : ws.Perm (L ++ wc)) (hP : va_P D vwCl ws H) (hD : va_D A ws) (hS : va_S A s.heap H locs) (hA : ∀ q : Nat, s.heap.size ≤ q → A q) (hST : ST A s) (hE : ∀ U : State, U.heap = H → s.WarmedH U.vm → E (va_A wc H.size) U)
    {ci : Nat} {q : vw_C} {fs : List Value} (hm : (b, .inr (ci, fs)) ∈ wc) (hci : vwCl[ci]? = some q) (hq : q.1 = C) (hn : As.length = n) (hsize : ls.size = nL) (hstack : st0 = As.reverse ++ .ref b :: rest) (hW : (rest.map fun v => v.category).sum ≤ 8) (hdg : decode cc pc = .ok (.invokevirtual index, 3)) (hf : cells + mc ≤ R.cells ∧ slots + ms ≤ R.slots)
    (kk : ∀ (o : Option Value) (w1 : va_W), B o w1 → ∀ (H1 : Heap) (locs1 : List Loc), va_P D vwCl (L ++ w1) H1 → va_D A (L ++ w1) → va_S A s.heap H1 locs1 → W p l e R s m args below meth c H1 locs1 (cells + mc) (slots + ms) Q (F0 m (pc + 3) ls (o.toList ++ rest))) : W p l e R s m args below meth c H locs cells slots Q (F0 m pc ls st0) := by
  subst hq
  have hP' := P_pm pm hP
  have hD' := D_pm pm hD
  obtain ⟨k0, hk0⟩ := List.getElem?_of_mem hm
  exact cX_go (va_runV S (hM H.size) cw ⟨hbl _, va_recv hK ((Jn_tail L wc wc rfl).sub hP') hci hk0, px_at hK hP' hD' hS hA hST hE⟩ rfl hn hsize hstack (lv_room hW) hdg hf) hP' hD' hS hA kk
theorem cX_S (S : CallFix p m c cc nL s args Ts own) (hM : MX l y wsY rm E D tys As wc B mc ms) (hbl : ∀ sz, FrameBlind (Px E D tys As wc sz)) (cw : CallB R s args own index y bytes maxL ret wsY rm mc ms n ∧ (Cond.static y).before args s = true) (hK : va_K D vwCl tys s) (pm : ws.Perm (L ++ wc)) (hP : va_P D vwCl ws H) (hD : va_D A ws) (hS : va_S A s.heap H locs) (hA : ∀ q : Nat, s.heap.size ≤ q → A q) (hST : ST A s) (hE : ∀ U : State, U.heap = H → s.WarmedH U.vm → E (va_A wc H.size) U)
    (hn : As.length = n) (hsize : ls.size = nL) (hstack : st0 = As.reverse ++ rest) (hW : (rest.map fun v => v.category).sum ≤ 8) (hdg : decode cc pc = .ok (.invokestatic index, 3)) (hf : cells + mc ≤ R.cells ∧ slots + ms ≤ R.slots)
    (kk : ∀ (o : Option Value) (w1 : va_W), B o w1 → ∀ (H1 : Heap) (locs1 : List Loc), va_P D vwCl (L ++ w1) H1 → va_D A (L ++ w1) → va_S A s.heap H1 locs1 → W p l e R s m args below meth c H1 locs1 (cells + mc) (slots + ms) Q (F0 m (pc + 3) ls (o.toList ++ rest))) : W p l e R s m args below meth c H locs cells slots Q (F0 m pc ls st0) := by
  have hP' := P_pm pm hP
  have hD' := D_pm pm hD
  exact cX_go (va_runS S (hM H.size) cw ⟨hbl _, px_at hK hP' hD' hS hA hST hE⟩ rfl hn hsize hstack (lv_room hW) hdg hf) hP' hD' hS hA kk
/-- a static call of a method with handlers -/
theorem cX_SW {hh : List (Nat × Nat × Nat × Nat)} (S : CallFix p m c cc nL s args Ts own) (hM : MX l y wsY rm E D tys As wc B mc ms) (hbl : ∀ sz, FrameBlind (Px E D tys As wc sz)) (cw : vx_CSW R s args own index y bytes maxL ret hh wsY rm mc ms n) (hK : va_K D vwCl tys s) (pm : ws.Perm (L ++ wc)) (hP : va_P D vwCl ws H) (hD : va_D A ws) (hS : va_S A s.heap H locs) (hA : ∀ q : Nat, s.heap.size ≤ q → A q) (hST : ST A s) (hE : ∀ U : State, U.heap = H → s.WarmedH U.vm → E (va_A wc H.size) U)
    (hn : As.length = n) (hsize : ls.size = nL) (hstack : st0 = As.reverse ++ rest) (hW : (rest.map fun v => v.category).sum ≤ 8) (hdg : decode cc pc = .ok (.invokestatic index, 3)) (hf : cells + mc ≤ R.cells ∧ slots + ms ≤ R.slots)
    (kk : ∀ (o : Option Value) (w1 : va_W), B o w1 → ∀ (H1 : Heap) (locs1 : List Loc), va_P D vwCl (L ++ w1) H1 → va_D A (L ++ w1) → va_S A s.heap H1 locs1 → W p l e R s m args below meth c H1 locs1 (cells + mc) (slots + ms) Q (F0 m (pc + 3) ls (o.toList ++ rest))) : W p l e R s m args below meth c H locs cells slots Q (F0 m pc ls st0) := by
  have hP' := P_pm pm hP
  have hD' := D_pm pm hD
  exact cX_go (vx_runSW S (hM H.size) cw ⟨hbl _, px_at hK hP' hD' hS hA hST hE⟩ rfl hn hsize hstack (lv_room hW) hdg hf) hP' hD' hS hA kk
/-- a nest mate's constructor -/
theorem cX_IN (S : CallFix p m c cc nL s args Ts own) (hM : MX l y wsY rm E D tys (.ref b :: As) wc B mc ms) (hbl : ∀ sz, FrameBlind (Px E D tys (.ref b :: As) wc sz)) (cw : va_CN R s args own index y host bytes maxL none wsY rm mc ms n ∧ y.name = "<init>" ∧ (Cond.instanceMethod y).before args s = true) (hK : va_K D vwCl tys s) (pm : ws.Perm (L ++ wc)) (hP : va_P D vwCl ws H) (hD : va_D A ws) (hS : va_S A s.heap H locs) (hA : ∀ q : Nat, s.heap.size ≤ q → A q) (hST : ST A s) (hE : ∀ U : State, U.heap = H → s.WarmedH U.vm → E (va_A wc H.size) U)
    (hn : As.length = n) (hsize : ls.size = nL) (hstack : st0 = As.reverse ++ .ref b :: rest) (hW : (rest.map fun v => v.category).sum ≤ 8) (hdg : decode cc pc = .ok (.invokespecial index, 3)) (hf : cells + mc ≤ R.cells ∧ slots + ms ≤ R.slots)
    (kk : ∀ (o : Option Value) (w1 : va_W), B o w1 → ∀ (H1 : Heap) (locs1 : List Loc), va_P D vwCl (L ++ w1) H1 → va_D A (L ++ w1) → va_S A s.heap H1 locs1 → W p l e R s m args below meth c H1 locs1 (cells + mc) (slots + ms) Q (F0 m (pc + 3) ls (o.toList ++ rest))) : W p l e R s m args below meth c H locs cells slots Q (F0 m pc ls st0) := by
  have hP' := P_pm pm hP
  have hD' := D_pm pm hD
  exact cX_go (va_runIN S (hM H.size) cw ⟨hbl _, px_at hK hP' hD' hS hA hST hE⟩ rfl hn hsize hstack (lv_room hW) hdg hf) hP' hD' hS hA kk
/-- a callee that could throw, but doesn't -/
theorem c1_V0 {ok : Prop} {px : String → Prop} (hno : ∀ E, ¬ px E) (S : CallFix p m c cc nL s args Ts own) (hM : M1 l y wsY rm D tys (.ref b :: As) wc ok o w1 px mc ms) (cw : CallW R s args own C index y bytes maxL ret wsY rm mc ms n) (hK : va_K D vwCl tys s) (hP : va_P D vwCl ws H) (hD : va_D A ws) (hS : va_S A s.heap H locs) (hA : ∀ q : Nat, s.heap.size ≤ q → A q) (hST : ST A s) (J : Jn ws wc w1 ws') (J0 : Jn ws wc wc ws)
    (k0 : Nat) {ci : Nat} {q : vw_C} {fs : List Value} (hk0 : wc[k0]? = some (b, .inr (ci, fs))) (hci : vwCl[ci]? = some q) (hq : q.1 = C) (hn : As.length = n) (hsize : ls.size = nL) (hstack : st0 = As.reverse ++ .ref b :: rest) (hW : (rest.map fun v => v.category).sum ≤ 8) (hdg : decode cc pc = .ok (.invokevirtual index, 3)) (hf : cells + mc ≤ R.cells ∧ slots + ms ≤ R.slots) (hst : o.toList ++ rest = st1)
    (kk : ∀ (H1 : Heap) (locs1 : List Loc), va_P D vwCl ws' H1 → va_D A ws' → va_S A s.heap H1 locs1 → W p l e R s m args below meth c H1 locs1 (cells + mc) (slots + ms) Q (F0 m (pc + 3) ls st1)) : W p l e R s m args below meth c H locs cells slots Q (F0 m pc ls st0) :=
  c1_V S hM cw hK hP hD hS hA hST J J0 k0 hk0 hci hq hn hsize hstack hW hdg hf hst (fun E ce q9 H1 locs1 h => absurd h (hno E)) (fun _ => kk)
theorem xe_no {K : Nat} {a b c : String} (h : K = 0) : ∀ E, ¬ XE K a b c E := fun E q => by
  unfold XE at q
  omega
/-! ends -/
theorem qx_end {t : State} (hB : B o w1) (hP : va_P D vwCl w1 H) (hD : va_D A w1) (hS : va_S A s.heap H locs) (ht : t.heap = H) : Qx D B A args s (.returned o) t := ⟨⟨o, w1, rfl, hB, by rw [ht]; exact hP, hD⟩, hS.F ht⟩
theorem eX_i {v : Int32} (hx : p.tables.exec = Jvm.exec) (hb : c.code = cc) (hr : meth.sig.returnType = some .int) (hlocks : meth.locks = false) (hB : B (some (.int v)) w1) (hP : va_P D vwCl w1 H) (hD : va_D A w1) (hS : va_S A s.heap H locs) (hdg : decode cc pc = .ok (.ireturn, 1)) (hc : cells ≤ mc) (hs : slots ≤ ms) :
    W p l e R s m args below meth c H locs cells slots (QX below D B A args s mc ms) (F0 m pc ls [.int v]) :=
  W.widen hc hs (W.iret hx hb hr (fun t ht _ => qx_end hB hP hD hS ht) hS.2.2 hdg)
theorem eX_z {v : Int32} (hx : p.tables.exec = Jvm.exec) (hb : c.code = cc) (hr : meth.sig.returnType = some .boolean) (hlocks : meth.locks = false) (hn : narrow .boolean (.int v) = .int v) (hB : B (some (.int v)) w1) (hP : va_P D vwCl w1 H) (hD : va_D A w1) (hS : va_S A s.heap H locs) (hdg : decode cc pc = .ok (.ireturn, 1)) (hc : cells ≤ mc) (hs : slots ≤ ms) :
    W p l e R s m args below meth c H locs cells slots (QX below D B A args s mc ms) (F0 m pc ls [.int v]) :=
  W.widen hc hs (W.zret hx hb hr hn (fun t ht _ => qx_end hB hP hD hS ht) hS.2.2 hdg)
theorem eX_a {x : Addr} {rt : FieldType} (hx : p.tables.exec = Jvm.exec) (hb : c.code = cc) (hr : meth.sig.returnType = some rt) (hrt : (∃ n, rt = .object n) ∨ ∃ t, rt = .array t) (hlocks : meth.locks = false) (hB : B (some (.ref x)) w1) (hP : va_P D vwCl w1 H) (hD : va_D A w1) (hS : va_S A s.heap H locs) (hdg : decode cc pc = .ok (.areturn, 1)) (hc : cells ≤ mc) (hs : slots ≤ ms) :
    W p l e R s m args below meth c H locs cells slots (QX below D B A args s mc ms) (F0 m pc ls [.ref x]) :=
  W.widen hc hs (W.aret hx hb hr hrt (Or.inr ⟨_, rfl⟩) (fun t ht _ => qx_end hB hP hD hS ht) hS.2.2 hdg)
theorem eX_v (hx : p.tables.exec = Jvm.exec) (hb : c.code = cc) (hr : meth.sig.returnType = none) (hlocks : meth.locks = false) (hB : B none w1) (hP : va_P D vwCl w1 H) (hD : va_D A w1) (hS : va_S A s.heap H locs) (hdg : decode cc pc = .ok (.return_, 1)) (hc : cells ≤ mc) (hs : slots ≤ ms) :
    W p l e R s m args below meth c H locs cells slots (QX below D B A args s mc ms) (F0 m pc ls []) :=
  W.widen hc hs (W.vret hx hb hr (fun t ht _ => qx_end hB hP hD hS ht) hS.2.2 hdg)
theorem w_mmin (hexec : p.tables.exec = Jvm.exec) (hb : c.code = cc) (hml : c.maxLocals = ls.size) {own : String} {index : Nat} (hown : s.vm.findClass own = some m.cls) (hlink : (Cond.methodLink own index Lib.Math.min.name).before args s = true) (hstat : (Cond.static Lib.Math.min.name).before args s = true) (hini : (Cond.initialized "java/lang/Math").before args s = true) (hcode : (Cond.code Lib.Math.min.name Lib.Math.min.code 2 (some .int)).before args s = true)
    (hframes : 1 ≤ R.frames) (hlocals : (rest.map fun v => v.category).sum + 13 ≤ R.locals) (hc : cells ≤ R.cells) (hs : slots ≤ R.slots) {x y : Int32} (hdg : decode cc pc = .ok (.invokestatic index, 3))
    (kk : W p l e R s m args below meth c H locs cells slots Q (F0 m (pc + 3) ls (.int (imn x y) :: rest))) : W p l e R s m args below meth c H locs cells slots Q (F0 m pc ls (.int y :: .int x :: rest)) :=
  va_mmin hexec hb hml hown hlink hstat hini hcode hframes hlocals hc hs hdg kk
theorem w_mmax (hexec : p.tables.exec = Jvm.exec) (hb : c.code = cc) (hml : c.maxLocals = ls.size) {own : String} {index : Nat} (hown : s.vm.findClass own = some m.cls) (hlink : (Cond.methodLink own index Lib.Math.max.name).before args s = true) (hstat : (Cond.static Lib.Math.max.name).before args s = true) (hini : (Cond.initialized "java/lang/Math").before args s = true) (hcode : (Cond.code Lib.Math.max.name Lib.Math.max.code 2 (some .int)).before args s = true)
    (hframes : 1 ≤ R.frames) (hlocals : (rest.map fun v => v.category).sum + 13 ≤ R.locals) (hc : cells ≤ R.cells) (hs : slots ≤ R.slots) {x y : Int32} (hdg : decode cc pc = .ok (.invokestatic index, 3))
    (kk : W p l e R s m args below meth c H locs cells slots Q (F0 m (pc + 3) ls (.int (imx x y) :: rest))) : W p l e R s m args below meth c H locs cells slots Q (F0 m pc ls (.int y :: .int x :: rest)) :=
  va_mmax hexec hb hml hown hlink hstat hini hcode hframes hlocals hc hs hdg kk
end KX
