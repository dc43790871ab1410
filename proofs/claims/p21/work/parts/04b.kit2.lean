/-! rows that make, copy, and read tables; constructors -/
theorem cA_eq {D : va_G} {tys : List (ClassId × FieldType)} {s : State} {cA cB : ClassId} {ty : FieldType} {i j : Nat} (hK : va_K D vwCl tys s) (h1 : tys[i]? = some (cA, ty)) (h2 : tys[j]? = some (cB, ty)) : cA = cB := by
  have a := (hK.2 i _ h1).2
  have b := (hK.2 j _ h2).2
  cases ty <;> first
    | exact Option.some.inj (a.symm.trans b)
    | (obtain ⟨kA, c1, p1, p2, p3, p4⟩ := a
       obtain ⟨kB, c2, q1, q2, q3, q4⟩ := b
       exact Option.some.inj (p4.symm.trans q4))
theorem K_app {D : va_G} {tys t2 : List (ClassId × FieldType)} {s : State} (h : va_K D vwCl (tys ++ t2) s) : va_K D vwCl tys s := ⟨h.1, fun k q hk => h.2 k q (by rw [List.getElem?_append_left (List.getElem?_eq_some_iff.mp hk).1]; exact hk)⟩
theorem P_arr {D : va_G} {ws : va_W} {H : Heap} (h : va_P D vwCl ws H) (k : Nat) {a n : Nat} {cA : ClassId} {f f' : Nat → Int32} (hk : ws[k]? = some (a, .inl (cA, n, .inl f))) (hf : ∀ j, j < n → f j = f' j) : va_P D vwCl (ws.set k (a, .inl (cA, n, .inl f'))) H := by
  intro i q hq
  by_cases hik : i = k
  · subst hik
    rw [List.getElem?_set_self (List.getElem?_eq_some_iff.mp hk).1] at hq
    cases hq
    have h1 : H[a]? = some (vp_cell cA (n, .inl f)) := h i _ hk
    show H[a]? = some (vp_cell cA (n, .inl f'))
    rw [h1, vp_cell_i, vp_cell_i]
    congr 1
    unfold arrV
    congr 1
    apply Array.ext
    · simp
    · intro j h1 h2
      simp only [Array.size_ofFn] at h1
      simp [hf j (by simpa using h1)]
  · rw [List.getElem?_set_ne (Ne.symm hik)] at hq
    exact h i q hq
theorem P_qarr {D : va_G} {ws : va_W} {H : Heap} (h : va_P D vwCl ws H) (k : Nat) {a n : Nat} {cA : ClassId} {f f' : Nat → Option Nat} (hk : ws[k]? = some (a, .inl (cA, n, .inr (.inr (.inr (.inr f)))))) (hf : ∀ j, j < n → f j = f' j) : va_P D vwCl (ws.set k (a, .inl (cA, n, .inr (.inr (.inr (.inr f')))))) H := by
  intro i q hq
  by_cases hik : i = k
  · subst hik
    rw [List.getElem?_set_self (List.getElem?_eq_some_iff.mp hk).1] at hq
    cases hq
    have h1 : H[a]? = some (vp_cell cA (n, .inr (.inr (.inr (.inr f))))) := h i _ hk
    show H[a]? = some (vp_cell cA (n, .inr (.inr (.inr (.inr f')))))
    rw [h1, vp_cell_q, vp_cell_q]
    congr 1
    unfold arrV
    congr 1
    apply Array.ext
    · simp
    · intro j h1 h2
      simp only [Array.size_ofFn] at h1
      simp [hf j (by simpa using h1)]
  · rw [List.getElem?_set_ne (Ne.symm hik)] at hq
    exact h i q hq
theorem Jn_tail (L wc w1 : va_W) (h : w1.map (fun q => q.1) = wc.map (fun q => q.1)) : Jn (L ++ wc) wc w1 (L ++ w1) := by
  have := Jn_mid L wc w1 [] h
  simpa using this
theorem Jn_head (wc w1 R : va_W) (h : w1.map (fun q => q.1) = wc.map (fun q => q.1)) : Jn (wc ++ R) wc w1 (w1 ++ R) := Jn_mid [] wc w1 R h
theorem Jn_two {ws : va_W} (k k2 a b : Nat) (e e' e2 : va_E) (h : ws[k]? = some (a, e)) (h2 : ws[k2]? = some (b, e2)) (hne : k ≠ k2) : Jn ws [(a, e), (b, e2)] [(a, e'), (b, e2)] (ws.set k (a, e')) := by
  have hab : ∀ A, va_D A ws → a ≠ b := fun A hD q => hne (hD.1 k k2 _ _ h h2 q)
  refine ⟨fun q hq => ?_, fun A hD => ?_, fun A hD => hD.set h, fun A hD q hq => ?_⟩
  · rcases List.mem_cons.mp hq with q1 | q1
    · rw [q1]; exact List.mem_of_getElem? h
    · rw [List.mem_singleton.mp q1]; exact List.mem_of_getElem? h2
  · have h9 := hab A hD
    refine dn_to (by simp [h9]) (fun q hq => ?_)
    rcases List.mem_cons.mp hq with q1 | q1
    · rw [q1]; exact hD.2 k _ h
    · rw [List.mem_singleton.mp q1]; exact hD.2 k2 _ h2
  · obtain ⟨j, hj⟩ := List.getElem?_of_mem hq
    by_cases hjk : j = k
    · subst hjk
      rw [List.getElem?_set_self (List.getElem?_eq_some_iff.mp h).1] at hj
      cases hj
      exact Or.inl List.mem_cons_self
    · rw [List.getElem?_set_ne (Ne.symm hjk)] at hj
      by_cases hj2 : j = k2
      · subst hj2
        rw [h2] at hj
        cases hj
        exact Or.inl (List.mem_cons_of_mem _ (List.mem_singleton.mpr rfl))
      · refine Or.inr ⟨List.mem_of_getElem? hj, fun p hp he => ?_⟩
        rcases List.mem_cons.mp hp with q1 | q1
        · rw [q1] at he; exact hjk (hD.1 k j _ _ h hj he).symm
        · rw [List.mem_singleton.mp q1] at he; exact hj2 (hD.1 k2 j _ _ h2 hj he).symm
/-! a constructor: new cells come -/
def Qn (B : va_W → Prop) (D : va_G) (A : Nat → Prop) : Array Value → State → Outcome → State → Prop := fun _ st oc t => oc = .returned none ∧ (∃ w1, B w1 ∧ va_P D vwCl w1 t.heap ∧ va_D A w1) ∧ va_F A st t
def MN (l : Launch) (y : MethodName) (ws : List Cond) (rm : Room) (D : va_G) (tys : List (ClassId × FieldType)) (av : List Value) (wc : va_W) (B : va_W → Prop) (mc ms : Nat) : Prop := ∀ sz : Nat, Met l y ws rm (Pd D tys av wc sz) (Qn B D (va_A wc sz)) mc ms (va_A wc sz)
def QN (below : List Frame) (D : va_G) (B : va_W → Prop) (A : Nat → Prop) (args : Array Value) (s : State) (mc ms : Nat) : State → Prop := MQ below (Qn B D A) args s mc ms A
theorem MN_of {l : Launch} {y : MethodName} {ws ws' : List Cond} {rm : Room} {D : va_G} {tys : List (ClassId × FieldType)} {av : List Value} {wc : va_W} {B : va_W → Prop} {mc ms : Nat} {cc : ByteArray} {maxL : Nat} {ret : Option FieldType} (hy : plainFor y = true) (hw : ws = .code y cc maxL ret :: ws') (hlen : (lg_sl av).length ≤ maxL)
    (body : ∀ p e s m args below meth c A, Bd p s m meth c y cc maxL ret args ws D tys A wc → ∀ ls, lv_has ls maxL (lv_args 0 av) → W p l e rm s m args below meth c s.heap [] 0 0 (QN below D B A args s mc ms) (F0 m 0 ls [])) : MN l y ws rm D tys av wc B mc ms := by
  intro sz
  refine Met_ofF (cc := cc) (maxL := maxL) (ret := ret) hy hw ?_
  intro p e s m args below meth c s₁ B hml hv
  obtain ⟨rfl, hsz, hP, hK, hD0, hST⟩ := hv
  subst hsz
  have h := body p e s m av.toArray below meth c (va_A wc s.heap.size) ⟨B.exec, B.bytes, hml, B.returns, findClass_of_methodNamed B.named, atoms_spec (ws := ws) B.pre, B.notSynchronized, hK, hP, hD0.self (sz := s.heap.size), fun q h => Or.inr h, hST, (name_of_methodNamed B.named B.method).1⟩ _ (lv_entry av hlen)
  rw [lg_entry_eq]
  exact h
section KM
variable {p : Program} {l : Launch} {e : Env} {R : Room} {s : State} {m : MethodId} {args : Array Value} {below : List Frame} {meth : Method} {c : Code} {H : Heap} {locs : List Loc} {cells slots : Nat} {Q : State → Prop}
variable {y : MethodName} {bytes cc : ByteArray} {maxL nL mc ms n index pc : Nat} {ret : Option FieldType} {wsY Ts : List Cond} {rm : Room} {own C host : String} {b : Addr} {As rest st0 st1 av : List Value} {ls : Array Slot}
variable {D : va_G} {tys : List (ClassId × FieldType)} {ws wc w1 ws' L : va_W} {o : Option Value} {A : Nat → Prop} {B : va_W → Prop} {a : Nat} {cA : ClassId}
theorem cN_go {a : Array Value} (hr : va_Run p l e R s m args below meth c H locs cells slots mc ms (F0 m pc ls st0) rest (Qn B D (va_A wc H.size) a) (va_A wc H.size)) (hP : va_P D vwCl (L ++ wc) H) (hD : va_D A (L ++ wc)) (hS : va_S A s.heap H locs) (hA : ∀ q : Nat, s.heap.size ≤ q → A q)
    (kk : ∀ (w1 : va_W), B w1 → ∀ (H1 : Heap) (locs1 : List Loc), va_P D vwCl (L ++ w1) H1 → va_D A (L ++ w1) → va_S A s.heap H1 locs1 → W p l e R s m args below meth c H1 locs1 (cells + mc) (slots + ms) Q (F0 m (pc + 3) ls rest)) : W p l e R s m args below meth c H locs cells slots Q (F0 m pc ls st0) := by
  intro T hT X
  obtain ⟨v, st₀, t, T', Ls, h0, X', hL, e1, e2, ⟨hv, ⟨w1, hB, hP1, hD1⟩, hz, hk⟩, st⟩ := hr T hT X
  cases hv
  rw [h0] at hz hk
  have J : Jn (L ++ wc) wc wc (L ++ wc) := Jn_tail L wc wc rfl
  have hF := J.free hD hS hA
  obtain ⟨n1, n2⟩ := dn_of hD
  simp only [List.map_append, List.nodup_append] at n1
  have hap : ∀ q ∈ L, q.1 < H.size ∧ ¬ va_A wc H.size q.1 := by
    intro q hq
    obtain ⟨k, hk9⟩ := List.getElem?_of_mem (List.mem_append_left wc hq)
    have hl := (hP k q hk9).lt
    refine ⟨hl, ?_⟩
    rintro (⟨i, e, hi⟩ | hi)
    · exact n1.2.2 q.1 (List.mem_map.mpr ⟨q, hq, rfl⟩) q.1 (List.mem_map.mpr ⟨(q.1, e), List.mem_of_getElem? hi, rfl⟩) rfl
    · omega
  obtain ⟨m1, m2⟩ := dn_of hD1
  obtain ⟨t2, a1, b1⟩ := kk w1 hB T'.heap (locs ++ Ls)
    (by
      intro k q hq
      rcases List.mem_append.mp (List.mem_of_getElem? hq) with h | h
      · obtain ⟨g1, g2⟩ := hap q h
        obtain ⟨k2, hk2⟩ := List.getElem?_of_mem (List.mem_append_left wc h)
        refine (hP k2 q hk2).kept ?_
        rw [e1]
        exact hk q.1 g1 g2
      · obtain ⟨k2, hk2⟩ := List.getElem?_of_mem h
        rw [e1]
        exact hP1 k2 q hk2)
    (by
      refine dn_to ?_ (fun q hq => ?_)
      · simp only [List.map_append, List.nodup_append]
        refine ⟨n1.1, m1, fun x hx z hz9 he => ?_⟩
        obtain ⟨q, hq, rfl⟩ := List.mem_map.mp hx
        obtain ⟨r, hr9, rfl⟩ := List.mem_map.mp hz9
        exact (hap q hq).2 (by rw [he]; exact m2 r hr9)
      · rcases List.mem_append.mp hq with h | h
        · exact n2 q (List.mem_append_left _ h)
        · exact hF _ (m2 q h))
    ⟨Nat.le_trans hS.1 (by rw [e1]; exact hz), fun q h1 h2 => by rw [e1, hk q (Nat.lt_of_lt_of_le h1 hS.1) (fun z => h2 (hF q z))]; exact hS.2.1 q h1 h2, fun q hq => by
      rcases List.mem_append.mp hq with h | h
      · exact hS.2.2 q h
      · exact hF _ (hL q h)⟩ T' rfl X'
  exact ⟨t2, st t2 a1, b1⟩
theorem cN_I (S : CallFix p m c cc nL s args Ts own) (hM : MN l y wsY rm D tys (.ref b :: As) wc B mc ms) (cw : CallB R s args own index y bytes maxL none wsY rm mc ms n ∧ y.name = "<init>" ∧ (Cond.instanceMethod y).before args s = true) (hK : va_K D vwCl tys s) (hP : va_P D vwCl (L ++ wc) H) (hD : va_D A (L ++ wc)) (hS : va_S A s.heap H locs) (hA : ∀ q : Nat, s.heap.size ≤ q → A q) (hST : ST A s)
    (hn : As.length = n) (hsize : ls.size = nL) (hstack : st0 = As.reverse ++ .ref b :: rest) (hW : (rest.map fun v => v.category).sum ≤ 8) (hdg : decode cc pc = .ok (.invokespecial index, 3)) (hf : cells + mc ≤ R.cells ∧ slots + ms ≤ R.slots)
    (kk : ∀ (w1 : va_W), B w1 → ∀ (H1 : Heap) (locs1 : List Loc), va_P D vwCl (L ++ w1) H1 → va_D A (L ++ w1) → va_S A s.heap H1 locs1 → W p l e R s m args below meth c H1 locs1 (cells + mc) (slots + ms) Q (F0 m (pc + 3) ls rest)) : W p l e R s m args below meth c H locs cells slots Q (F0 m pc ls st0) :=
  cN_go (va_runI S (hM H.size) cw ⟨pd_blind, pd_at hK hP hD hS hA hST (Jn_tail L wc wc rfl)⟩ rfl hn hsize hstack (lv_room hW) hdg hf) hP hD hS hA kk
theorem eN_v (hx : p.tables.exec = Jvm.exec) (hb : c.code = cc) (hr : meth.sig.returnType = none) (hlocks : meth.locks = false) (hB : B w1) (hP : va_P D vwCl w1 H) (hD : va_D A w1) (hS : va_S A s.heap H locs) (hdg : decode cc pc = .ok (.return_, 1)) (hc : cells ≤ mc) (hs : slots ≤ ms) :
    W p l e R s m args below meth c H locs cells slots (QN below D B A args s mc ms) (F0 m pc ls []) :=
  W.widen hc hs (W.vret hx hb hr (fun t ht _ => ⟨rfl, ⟨w1, hB, by rw [ht]; exact hP, hD⟩, hS.F ht⟩) hS.2.2 hdg)
theorem w_newi (hx : p.tables.exec = Jvm.exec) (hb : c.code = cc) (harr : (Cond.arrayClass .int).before args s = true) (hK : va_K D vwCl tys s) (hP : va_P D vwCl ws H) (hD : va_D A ws) (hS : va_S A s.heap H locs) (hA : ∀ q : Nat, s.heap.size ≤ q → A q) (ht0 : tys[0]? = some (cA, .int))
    {n : Int32} (N : Nat) (hN : n = nI N) (hNl : N ≤ 1000) (hcells : cells + 1 ≤ R.cells) (hslots : slots + N ≤ R.slots) (hdg : decode cc pc = .ok (.newarray .int, 2))
    (kk : ∀ (q : Nat) (H1 : Heap), va_P D vwCl (ws ++ [(q, .inl (cA, N, .inl (fun _ => 0)))]) H1 → va_D A (ws ++ [(q, .inl (cA, N, .inl (fun _ => 0)))]) → va_S A s.heap H1 locs → W p l e R s m args below meth c H1 locs (cells + 1) (slots + N) Q (F0 m (pc + 2) ls (.ref q :: rest))) : W p l e R s m args below meth c H locs cells slots Q (F0 m pc ls (.int n :: rest)) := by
  have hc : n.toNatClampNeg = N := by rw [hN]; exact nI_clamp (by omega)
  refine va_newa (atype := .int) hx hb harr (ty := .int) rfl hK hP hD hS hA (N' := N) (a0 := (N, .inl (fun _ => 0))) (fun cA => rfl) (by rw [hN]; exact nI_pos (by omega)) hc (by show N * 4 ≤ _; omega) hcells hslots hdg (fun q cB H1 hK1 hP1 hD1 hS1 => ?_)
  have e : cB = cA := by
    refine cA_eq hK1 (ty := .int) (i := tys.length) (j := 0) (by simp) ?_
    rw [List.getElem?_append_left (List.getElem?_eq_some_iff.mp ht0).1]
    exact ht0
  subst e
  exact kk q H1 hP1 hD1 hS1
theorem w_newq {index : Nat} (hx : p.tables.exec = Jvm.exec) (hb : c.code = cc) (hown : s.vm.findClass own = some m.cls) (hcl : (Cond.classLink own index C).before args s = true) (hover : va_AO C s) (hK : va_K D vwCl tys s) (hP : va_P D vwCl ws H) (hD : va_D A ws) (hS : va_S A s.heap H locs) (hA : ∀ q : Nat, s.heap.size ≤ q → A q) (t0 : Nat) (ht0 : tys[t0]? = some (cA, .object C))
    {n : Int32} (N : Nat) (hN : n = nI N) (hNl : N ≤ 1000) (hcells : cells + 1 ≤ R.cells) (hslots : slots + N ≤ R.slots) (hdg : decode cc pc = .ok (.anewarray index, 3))
    (kk : ∀ (q : Nat) (H1 : Heap), va_P D vwCl (ws ++ [(q, .inl (cA, N, .inr (.inr (.inr (.inr (fun _ => none))))))]) H1 → va_D A (ws ++ [(q, .inl (cA, N, .inr (.inr (.inr (.inr (fun _ => none))))))]) → va_S A s.heap H1 locs → W p l e R s m args below meth c H1 locs (cells + 1) (slots + N) Q (F0 m (pc + 3) ls (.ref q :: rest))) : W p l e R s m args below meth c H locs cells slots Q (F0 m pc ls (.int n :: rest)) := by
  have hc : n.toNatClampNeg = N := by rw [hN]; exact nI_clamp (by omega)
  refine va_newq hx hb hown hcl hover hK hP hD hS hA (by rw [hN]; exact nI_pos (by omega)) hc (by omega) hcells hslots hdg (fun q cB H1 hK1 hP1 hD1 hS1 => ?_)
  have e : cB = cA := by
    refine cA_eq hK1 (ty := .object C) (i := tys.length) (j := t0) (by simp) ?_
    rw [List.getElem?_append_left (List.getElem?_eq_some_iff.mp ht0).1]
    exact ht0
  subst e
  exact kk q H1 hP1 hD1 hS1
theorem w_qst (hx : p.tables.exec = Jvm.exec) (hb : c.code = cc) (hK : va_K D vwCl tys s) (hP : va_P D vwCl ws H) (hD : va_D A ws) (hS : va_S A s.heap H locs) (q0 t0 qk ci : Nat) {r : vw_C} {n v : Nat} {vs : List Value} {f : Nat → Option Nat} (ha : ws[q0]? = some (a, .inl (cA, n, .inr (.inr (.inr (.inr f)))))) (ht : tys[t0]? = some (cA, .object r.1)) (hv : ws[qk]? = some (v, .inr (ci, vs))) (hc : vwCl[ci]? = some r) {i : Int32} (j : Nat) (hi : i = nI j) (hj : j < n) (hn : n < 2 ^ 31)
    (hw : ws.set q0 (a, .inl (cA, n, .inr (.inr (.inr (.inr (va_up f j (some v))))))) = ws') (hdg : decode cc pc = .ok (.aastore, 1))
    (kk : ∀ (H1 : Heap) (locs1 : List Loc), va_P D vwCl ws' H1 → va_D A ws' → va_S A s.heap H1 locs1 → W p l e R s m args below meth c H1 locs1 cells slots Q (F0 m (pc + 1) ls rest)) : W p l e R s m args below meth c H locs cells slots Q (F0 m pc ls (.ref v :: .int i :: .ref a :: rest)) := by
  refine va_astq hx hb hK hP hD hS q0 t0 qk ci ha ht hv hc (nin hi hj hn) hdg (fun H1 locs1 hP1 hD1 hS1 => ?_)
  rw [hi, nI_clamp (Nat.lt_trans hj hn)] at hP1 hD1
  subst hw
  exact kk H1 locs1 hP1 hD1 hS1
theorem w_putF {ref C : String} {T : u_T} {N ci index : Nat} {ty0 : Nat → FieldType} {fs : List Value} {v : Value} (hx : p.tables.exec = Jvm.exec) (hb : c.code = cc) (hts : ∀ w ∈ Ts, w.before args s = true) (hin : ∀ w ∈ u_ws C T N, w ∈ Ts) (hty : ∀ k, k < N → parseFieldDescriptor (T k).2.2.1 = some (ty0 k)) (hnm : ∀ a, a < N → ∀ b, b < N → a ≠ b → (T a).2.1 ≠ (T b).2.1) (hown : s.vm.findClass own = some m.cls) (hK : va_K D vwCl tys s) (hP : va_P D vwCl ws H) (hD : va_D A ws) (hS : va_S A s.heap H locs)
    (q0 : Nat) (he : ws[q0]? = some (a, .inr (ci, fs))) (hc : vwCl[ci]? = some (C, T, N)) (k : Nat) (hk : k < N) (hlink : Cond.fieldLink own index ref (T k).2.1 (T k).2.2.1 ∈ Ts) (href : (T k).1 = ref) (hfin : (T k).2.2.2 = true) (hin2 : meth.name = "<init>") (hdecl : (T k).1 = own) (hn : narrow (ty0 k) v = v) (hfit : fits (ty0 k) v = true) (hl : k < fs.length) (hw : ws.set q0 (a, .inr (ci, fs.set k v)) = ws') (hdg : decode cc pc = .ok (.putfield index, 3))
    (kk : ∀ (H1 : Heap) (locs1 : List Loc), va_P D vwCl ws' H1 → va_D A ws' → va_S A s.heap H1 locs1 → W p l e R s m args below meth c H1 locs1 cells slots Q (F0 m (pc + 3) ls rest)) : W p l e R s m args below meth c H locs cells slots Q (F0 m pc ls (v :: .ref a :: rest)) := by
  subst hw
  exact va_putF hx hb hts hin ty0 hty hnm hown hK hP hD hS q0 he hc k hk (hts _ hlink) (fun x h => href ▸ h) hfin hin2 hdecl (hty k hk) hn hfit hl hdg kk
theorem w_new {T : u_T} {N ci : Nat} {ty0 : Nat → FieldType} {fs : List Value} (hx : p.tables.exec = Jvm.exec) (hb : c.code = cc) (hts : ∀ w ∈ Ts, w.before args s = true) (hin : ∀ w ∈ u_ws C T N, w ∈ Ts) (hty : ∀ k, k < N → parseFieldDescriptor (T k).2.2.1 = some (ty0 k)) (hown : s.vm.findClass own = some m.cls) (hcl : Cond.classLink own index C ∈ Ts) (hinst : Cond.instantiable C N ∈ Ts) (hini : Cond.initialized C ∈ Ts)
    (hK : va_K D vwCl tys s) (hP : va_P D vwCl ws H) (hD : va_D A ws) (hS : va_S A s.heap H locs) (hA : ∀ q : Nat, s.heap.size ≤ q → A q) (hc : vwCl[ci]? = some (C, T, N)) (hfs : ∀ j, j < N → defaultValue (ty0 j) = vp_V fs j) (hcells : cells + 1 ≤ R.cells) (hslots : slots + N ≤ R.slots) (hdg : decode cc pc = .ok (.new index, 3))
    (kk : ∀ (q : Nat) (H1 : Heap), va_P D vwCl (ws ++ [(q, .inr (ci, fs))]) H1 → va_D A (ws ++ [(q, .inr (ci, fs))]) → va_S A s.heap H1 locs → W p l e R s m args below meth c H1 locs (cells + 1) (slots + N) Q (F0 m (pc + 3) ls (.ref q :: rest))) : W p l e R s m args below meth c H locs cells slots Q (F0 m pc ls rest) :=
  va_new hx hb hts hin ty0 hty hown (hts _ hcl) (hts _ hinst) (hts _ hini) hK hP hD hS hA hc hfs hcells hslots hdg kk
theorem w_alen (hx : p.tables.exec = Jvm.exec) (hb : c.code = cc) (hK : va_K D vwCl tys s) (hP : va_P D vwCl ws H) (q0 t0 : Nat) {N : Nat} {f : Nat → Int32} (ha : ws[q0]? = some (a, .inl (cA, N, .inl f))) (ht : tys[t0]? = some (cA, .int)) (hdg : decode cc pc = .ok (.arraylength, 1))
    (kk : W p l e R s m args below meth c H locs cells slots Q (F0 m (pc + 1) ls (.int (nI N) :: rest))) : W p l e R s m args below meth c H locs cells slots Q (F0 m pc ls (.ref a :: rest)) :=
  va_alen hx hb hK hP q0 t0 ha ht rfl hdg kk
theorem w_copy {index : Nat} (hx : p.tables.exec = Jvm.exec) (hb : c.code = cc) (hml : c.maxLocals = ls.size) (hown : s.vm.findClass own = some m.cls) (hlink : (Cond.methodLink own index arraycopyName).before args s = true) (hnat : (Cond.native arraycopyName).before args s = true) (hstat : (Cond.static arraycopyName).before args s = true) (hini : (Cond.initialized "java/lang/System").before args s = true)
    (hK : va_K D vwCl tys s) (hP : va_P D vwCl ws H) (hD : va_D A ws) (hS : va_S A s.heap H locs) (q0 q1 : Nat) {a0 N : Nat} {f g : Nat → Int32} (ha0 : ws[q0]? = some (a0, .inl (cA, N, .inl f))) (ha1 : ws[q1]? = some (a, .inl (cA, N, .inl g))) (ht0 : tys[0]? = some (cA, .int)) (hN : N < 2 ^ 31) {n : Int32} (hn : n = nI N)
    (hframes : 1 ≤ R.frames) (hlocals : (rest.map fun v => v.category).sum + (nativeFrameWords "java/lang/System" "arraycopy" 5 + 11) ≤ R.locals) (hw : ws.set q1 (a, .inl (cA, N, .inl (va_cpy f g 0 0 N))) = ws') (hdg : decode cc pc = .ok (.invokestatic index, 3))
    (kk : ∀ (H1 : Heap) (locs1 : List Loc), va_P D vwCl ws' H1 → va_D A ws' → va_S A s.heap H1 locs1 → W p l e R s m args below meth c H1 locs1 cells slots Q (F0 m (pc + 3) ls rest)) : W p l e R s m args below meth c H locs cells slots Q (F0 m pc ls (.int n :: .int 0 :: .ref a :: .int 0 :: .ref a0 :: rest)) := by
  have hc : n.toNatClampNeg = N := by rw [hn]; exact nI_clamp hN
  have h0 : (0 : Int32).toNatClampNeg = 0 := by decide
  refine va_copyi hx hb hml hown hlink hnat hstat hini hK hP hD hS q0 q1 0 0 ha0 ha1 ht0 ht0 rfl (by decide) (by decide) (by rw [hn]; exact nI_pos hN) (by rw [hc, h0]; omega) (by rw [hc, h0]; omega) (fun i _ => rfl) hframes hlocals hdg (fun H1 locs1 hP1 hD1 hS1 => ?_)
  rw [hc, h0] at hP1 hD1
  subst hw
  exact kk H1 locs1 hP1 hD1 hS1
end KM
