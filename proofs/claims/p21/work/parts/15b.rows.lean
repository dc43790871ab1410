/-! rows that find a thing by its being there, and write it where Jf says -/
section KR
variable {p : Program} {l : Launch} {e : Env} {R : Room} {s : State} {m : MethodId} {args : Array Value} {below : List Frame} {meth : Method} {c : Code} {H : Heap} {locs : List Loc} {cells slots : Nat} {Q : State → Prop}
variable {cc : ByteArray} {pc : Nat} {ls : Array Slot} {rest : List Value} {A : Nat → Prop} {D : va_G} {tys : List (ClassId × FieldType)} {ws ws' : va_W} {a : Nat} {cA : ClassId} {n : Nat}
theorem w_ildM (hx : p.tables.exec = Jvm.exec) (hb : c.code = cc) (hK : va_K D vwCl tys s) (hP : va_P D vwCl ws H) {f : Nat → Int32} (hm : (a, .inl (cA, n, .inl f)) ∈ ws) (ht : tys[0]? = some (cA, .int)) {i v : Int32} (j : Nat) (hi : i = nI j) (hj : j < n) (hn : n < 2 ^ 31) (hv : f j = v) (hdg : decode cc pc = .ok (.iaload, 1))
    (kk : W p l e R s m args below meth c H locs cells slots Q (F0 m (pc + 1) ls (.int v :: rest))) : W p l e R s m args below meth c H locs cells slots Q (F0 m pc ls (.int i :: .ref a :: rest)) := by
  obtain ⟨q0, h0⟩ := List.getElem?_of_mem hm
  exact w_ild hx hb hK hP q0 0 h0 ht j hi hj hn hv hdg kk
theorem w_qldA (hx : p.tables.exec = Jvm.exec) (hb : c.code = cc) (hK : va_K D vwCl tys s) (hP : va_P D vwCl ws H) {f : Nat → Option Nat} (hm : (a, .inl (cA, n, .inr (.inr (.inr (.inr f))))) ∈ ws) (ht : tys[3]? = some (cA, .array .int)) {i : Int32} {v : Nat} (j : Nat) (hi : i = nI j) (hj : j < n) (hn : n < 2 ^ 31) (hv : f j = some v) (hdg : decode cc pc = .ok (.aaload, 1))
    (kk : W p l e R s m args below meth c H locs cells slots Q (F0 m (pc + 1) ls (.ref v :: rest))) : W p l e R s m args below meth c H locs cells slots Q (F0 m pc ls (.int i :: .ref a :: rest)) := by
  obtain ⟨q0, h0⟩ := List.getElem?_of_mem hm
  have hin : vp_in i n := nin hi hj hn
  have hc : i.toNatClampNeg = j := by rw [hi]; exact nI_clamp (Nat.lt_trans hj hn)
  refine W.aald (v := .ref v) (ty := .array .int) hx hb (hP q0 _ h0) ((hK.2 3 _ ht).1 n (fun j => va_rf (f j))) rfl (fun q => by cases q) ?_ ?_ rfl rfl hdg kk
  · show ¬ (i < 0 ∨ (arrV _ _ _).slots.size ≤ _)
    rw [arrV_size]
    exact hin
  · show (arrV _ _ _).slots[_]? = _
    rw [hc, arrV_read _ _ hj, hv]
    rfl
theorem w_alenI (hx : p.tables.exec = Jvm.exec) (hb : c.code = cc) (hK : va_K D vwCl tys s) (hP : va_P D vwCl ws H) {f : Nat → Int32} (hm : (a, .inl (cA, n, .inl f)) ∈ ws) (ht : tys[0]? = some (cA, .int)) (hdg : decode cc pc = .ok (.arraylength, 1))
    (kk : W p l e R s m args below meth c H locs cells slots Q (F0 m (pc + 1) ls (.int (nI n) :: rest))) : W p l e R s m args below meth c H locs cells slots Q (F0 m pc ls (.ref a :: rest)) := by
  obtain ⟨q0, h0⟩ := List.getElem?_of_mem hm
  exact va_alen hx hb hK hP q0 0 h0 ht rfl hdg kk
theorem w_alenA (hx : p.tables.exec = Jvm.exec) (hb : c.code = cc) (hK : va_K D vwCl tys s) (hP : va_P D vwCl ws H) {f : Nat → Option Nat} (hm : (a, .inl (cA, n, .inr (.inr (.inr (.inr f))))) ∈ ws) (ht : tys[3]? = some (cA, .array .int)) (hdg : decode cc pc = .ok (.arraylength, 1))
    (kk : W p l e R s m args below meth c H locs cells slots Q (F0 m (pc + 1) ls (.int (nI n) :: rest))) : W p l e R s m args below meth c H locs cells slots Q (F0 m pc ls (.ref a :: rest)) := by
  obtain ⟨q0, h0⟩ := List.getElem?_of_mem hm
  exact va_alen hx hb hK hP q0 3 h0 ht rfl hdg kk
theorem w_getM {own ref C : String} {T : u_T} {N ci index : Nat} {Ts : List Cond} {fs : List Value} {v : Value} (hx : p.tables.exec = Jvm.exec) (hb : c.code = cc) (hts : ∀ w ∈ Ts, w.before args s = true) (hin : ∀ w ∈ u_ws C T N, w ∈ Ts) (hown : s.vm.findClass own = some m.cls) (hK : va_K D vwCl tys s) (hP : va_P D vwCl ws H)
    (hm : (a, .inr (ci, fs)) ∈ ws) (hc : vwCl[ci]? = some (C, T, N)) (k : Nat) (hk : k < N) (hlink : Cond.fieldLink own index ref (T k).2.1 (T k).2.2.1 ∈ Ts) (href : (T k).1 = ref) (hv : fs[k]? = some v) (hdg : decode cc pc = .ok (.getfield index, 3))
    (kk : W p l e R s m args below meth c H locs cells slots Q (F0 m (pc + 3) ls (v :: rest))) : W p l e R s m args below meth c H locs cells slots Q (F0 m pc ls (.ref a :: rest)) := by
  obtain ⟨q0, h0⟩ := List.getElem?_of_mem hm
  exact w_get hx hb hts hin hown hK hP q0 h0 hc k hk hlink href hv hdg kk
/-- what a store at a place of ws makes, said of Jf's world -/
theorem Jf_done {e0 e1 : va_E} {q0 : Nat} {H1 : Heap} (J : Jf ws [(a, e0)] [(a, e1)] ws') (hD : va_D A ws) (h0 : ws[q0]? = some (a, e0)) (hP1 : va_P D vwCl (ws.set q0 (a, e1)) H1) : va_P D vwCl ws' H1 := by
  intro k q hq
  rcases J.1.2.2.2 A hD q (List.mem_of_getElem? hq) with h | ⟨h, hn⟩
  · rw [List.mem_singleton.mp h]
    exact hP1 q0 _ (List.getElem?_set_self (List.getElem?_eq_some_iff.mp h0).1)
  · obtain ⟨j, hj⟩ := List.getElem?_of_mem h
    have hne : q0 ≠ j := fun e => by
      subst e
      rw [h0] at hj
      cases hj
      exact hn (a, e0) (List.mem_singleton.mpr rfl) rfl
    exact hP1 j q (by rw [List.getElem?_set_ne hne]; exact hj)
theorem w_istJ (hx : p.tables.exec = Jvm.exec) (hb : c.code = cc) (hK : va_K D vwCl tys s) (hP : va_P D vwCl ws H) (hD : va_D A ws) (hS : va_S A s.heap H locs) {f : Nat → Int32} {i x : Int32} (j : Nat) (J : Jf ws [(a, .inl (cA, n, .inl f))] [(a, .inl (cA, n, .inl (upd f j x)))] ws') (ht : tys[0]? = some (cA, .int)) (hi : i = nI j) (hj : j < n) (hn : n < 2 ^ 31) (hdg : decode cc pc = .ok (.iastore, 1))
    (kk : ∀ (H1 : Heap) (locs1 : List Loc), va_P D vwCl ws' H1 → va_D A ws' → va_S A s.heap H1 locs1 → W p l e R s m args below meth c H1 locs1 cells slots Q (F0 m (pc + 1) ls rest)) : W p l e R s m args below meth c H locs cells slots Q (F0 m pc ls (.int x :: .int i :: .ref a :: rest)) := by
  obtain ⟨q0, h0⟩ := List.getElem?_of_mem (J.1.1 _ (List.mem_singleton.mpr rfl))
  refine w_ist hx hb hK hP hD hS q0 0 h0 ht j hi hj hn rfl hdg (fun H1 locs1 hP1 hD1 hS1 => ?_)
  exact kk H1 locs1 (Jf_done J hD h0 hP1) (J.1.2.2.1 A hD) hS1
theorem w_putJ {own ref C : String} {T : u_T} {N ci index : Nat} {Ts : List Cond} {ty0 : Nat → FieldType} {fs fs' : List Value} {v : Value} (hx : p.tables.exec = Jvm.exec) (hb : c.code = cc) (hts : ∀ w ∈ Ts, w.before args s = true) (hin : ∀ w ∈ u_ws C T N, w ∈ Ts) (hty : ∀ k, k < N → parseFieldDescriptor (T k).2.2.1 = some (ty0 k)) (hnm : ∀ a, a < N → ∀ b, b < N → a ≠ b → (T a).2.1 ≠ (T b).2.1) (hown : s.vm.findClass own = some m.cls) (hK : va_K D vwCl tys s) (hP : va_P D vwCl ws H) (hD : va_D A ws) (hS : va_S A s.heap H locs)
    (J : Jf ws [(a, .inr (ci, fs))] [(a, .inr (ci, fs'))] ws') (hc : vwCl[ci]? = some (C, T, N)) (k : Nat) (hk : k < N) (hlink : Cond.fieldLink own index ref (T k).2.1 (T k).2.2.1 ∈ Ts) (href : (T k).1 = ref) (hfin : (T k).2.2.2 = false) (hn : narrow (ty0 k) v = v) (hfit : fits (ty0 k) v = true) (hl : k < fs.length) (hfs : fs.set k v = fs') (hdg : decode cc pc = .ok (.putfield index, 3))
    (kk : ∀ (H1 : Heap) (locs1 : List Loc), va_P D vwCl ws' H1 → va_D A ws' → va_S A s.heap H1 locs1 → W p l e R s m args below meth c H1 locs1 cells slots Q (F0 m (pc + 3) ls rest)) : W p l e R s m args below meth c H locs cells slots Q (F0 m pc ls (v :: .ref a :: rest)) := by
  obtain ⟨q0, h0⟩ := List.getElem?_of_mem (J.1.1 _ (List.mem_singleton.mpr rfl))
  subst hfs
  refine w_put hx hb hts hin hty hnm hown hK hP hD hS q0 h0 hc k hk hlink href hfin hn hfit hl rfl hdg (fun H1 locs1 hP1 hD1 hS1 => ?_)
  exact kk H1 locs1 (Jf_done J hD h0 hP1) (J.1.2.2.1 A hD) hS1
theorem w_qstA {cI : ClassId} {nv : Nat} {g : Nat → Int32} (hx : p.tables.exec = Jvm.exec) (hb : c.code = cc) (hK : va_K D vwCl tys s) (hAA : va_AOA .int s) (hP : va_P D vwCl ws H) (hD : va_D A ws) (hS : va_S A s.heap H locs) {f : Nat → Option Nat} {i : Int32} {v : Nat} (j : Nat) (J : Jf ws [(a, .inl (cA, n, .inr (.inr (.inr (.inr f)))))] [(a, .inl (cA, n, .inr (.inr (.inr (.inr (va_up f j (some v)))))))] ws') (ht : tys[3]? = some (cA, .array .int)) (ht0 : tys[0]? = some (cI, .int)) (hv : (v, .inl (cI, nv, .inl g)) ∈ ws) (hi : i = nI j) (hj : j < n) (hn : n < 2 ^ 31) (hdg : decode cc pc = .ok (.aastore, 1))
    (kk : ∀ (H1 : Heap) (locs1 : List Loc), va_P D vwCl ws' H1 → va_D A ws' → va_S A s.heap H1 locs1 → W p l e R s m args below meth c H1 locs1 cells slots Q (F0 m (pc + 1) ls rest)) : W p l e R s m args below meth c H locs cells slots Q (F0 m pc ls (.ref v :: .int i :: .ref a :: rest)) := by
  obtain ⟨q0, h0⟩ := List.getElem?_of_mem (J.1.1 _ (List.mem_singleton.mpr rfl))
  obtain ⟨qv, hqv⟩ := List.getElem?_of_mem hv
  have hcl : i.toNatClampNeg = j := by rw [hi]; exact nI_clamp (Nat.lt_trans hj hn)
  have hin : vp_in i n := nin hi hj hn
  obtain ⟨comp, cA2, kA, k3, -, k1, k2, k4⟩ := arrayOverA_spec (va_AOA.use (A := args) hAA)
  have e1 : s.vm.findClass ("[" ++ (FieldType.array .int).toString) = some cA := (hK.2 3 _ ht).2
  have e2 : s.vm.findClass ("[" ++ FieldType.int.toString) = some cI := (hK.2 0 _ ht0).2
  cases e1.symm.trans k4
  have e3 : s.vm.findClass (FieldType.array .int).toString = some cI := e2
  cases k3.symm.trans e3
  obtain ⟨kE, hkE, -⟩ := Vm.findClass_spec k3
  have hasg : s.vm.assignable cI cI = true := by
    show s.vm.assignableAux (255 + 1) cI cI = true
    rw [Vm.assignableAux, beq_self_eq_true, Bool.true_or]
  refine W.aast hx hb (hP q0 _ h0) (fun q h => by cases h) (fun h => by cases h) k1 k2 rfl hkE ⟨fun q => hin (Or.inl q), ?_⟩ (hP qv _ hqv) (fun q h => by cases h) hkE hasg rfl rfl hdg (fun H1 e z oq => ?_)
  · show _ < (arrV _ _ _).slots.size
    rw [arrV_size, hcl]
    exact hj
  · have hat : va_at D vwCl (a, .inl (cA, n, .inr (.inr (.inr (.inr (va_up f j (some v))))))) H1 := by
      show H1[a]? = some (vp_cell _ _)
      rw [e, hcl, vp_cell_q, vp_cell_q, arrV_store]
      congr 2
      funext q
      by_cases hq : q = j
      · subst hq
        simp [updV, va_up, va_rf]
      · simp [updV, va_up, hq]
    exact kk H1 _ (Jf_done J hD h0 (hP.set hD h0 hat oq)) (J.1.2.2.1 A hD) (hS.put z oq (hD.2 q0 _ h0))
/-- a new row of rows, empty -/
theorem w_newA {own : String} {index : Nat} (hx : p.tables.exec = Jvm.exec) (hb : c.code = cc) (hown : s.vm.findClass own = some m.cls) (hcl : (Cond.classLink own index "[I").before args s = true) (hAA : va_AOA .int s) (hK : va_K D vwCl tys s) (hP : va_P D vwCl ws H) (hD : va_D A ws) (hS : va_S A s.heap H locs) (hA : ∀ q : Nat, s.heap.size ≤ q → A q) (ht : tys[3]? = some (cA, .array .int))
    {i : Int32} (hi : i = nI n) (hn : n ≤ 1000) (hcells : cells + 1 ≤ R.cells) (hslots : slots + n ≤ R.slots) (hdg : decode cc pc = .ok (.anewarray index, 3))
    (kk : ∀ (q : Nat) (H1 : Heap), va_P D vwCl (ws ++ [(q, .inl (cA, n, .inr (.inr (.inr (.inr (fun _ => none))))))]) H1 → va_D A (ws ++ [(q, .inl (cA, n, .inr (.inr (.inr (.inr (fun _ => none))))))]) → va_S A s.heap H1 locs → W p l e R s m args below meth c H1 locs (cells + 1) (slots + n) Q (F0 m (pc + 3) ls (.ref q :: rest))) : W p l e R s m args below meth c H locs cells slots Q (F0 m pc ls (.int i :: rest)) := by
  have hc : i.toNatClampNeg = n := by rw [hi]; exact nI_clamp (by omega)
  refine W.anewA (t := .int) hx hb hown hcl (va_AOA.use hAA) rfl hdg rfl (by rw [hi]; exact nI_pos (by omega)) (by rw [hc]; omega) hcells (by rw [hc]; exact hslots) (fun cB kB comp f1 f2 f3 f4 => ?_)
  have e1 : s.vm.findClass ("[" ++ (FieldType.array .int).toString) = some cA := (hK.2 3 _ ht).2
  cases e1.symm.trans f1
  rw [hc]
  generalize hH1 : H.push ({ cls := cA, slots := Array.replicate n .null, vm := .none } : Cell) = H1
  have z1 : H1.size = H.size + 1 := by rw [← hH1, Array.size_push]
  have o1 : ∀ q : Nat, q < H.size → H1[q]? = H[q]? := fun q hq => by rw [← hH1, Array.getElem?_push, if_neg (Nat.ne_of_lt hq)]
  have g1 : H1[H.size]? = some (vp_cell cA (n, .inr (.inr (.inr (.inr (fun _ => none)))))) := by
    rw [← hH1, Array.getElem?_push_size, vp_cell_q]
    exact congrArg some (arrV_new cA n .null)
  refine kk H.size H1 ((hP.kept (fun k x hx => o1 x.1 ((hP k x hx).lt))).app (fun k x hx => ?_)) (hD.push hP rfl (hA _ hS.1)) ⟨Nat.le_trans hS.1 (by omega), fun x h1 h2 => (o1 x (Nat.lt_of_lt_of_le h1 hS.1)).trans (hS.2.1 x h1 h2), hS.2.2⟩
  have hz : k < 1 := (List.getElem?_eq_some_iff.mp hx).1
  rw [show k = 0 by omega] at hx
  cases hx
  exact g1
/-- new rows of three, by their number -/
theorem w_mna {own : String} {index : Nat} {cI : ClassId} (hx : p.tables.exec = Jvm.exec) (hb : c.code = cc) (hown : s.vm.findClass own = some m.cls) (hcl : (Cond.classLink own index "[[I").before args s = true) (hAA : va_AOA .int s) (harr : (Cond.arrayClass .int).before args s = true) (hK : va_K D vwCl tys s) (hP : va_P D vwCl ws H) (hD : va_D A ws) (hS : va_S A s.heap H locs) (hA : ∀ q : Nat, s.heap.size ≤ q → A q) (ht : tys[3]? = some (cA, .array .int)) (ht0 : tys[0]? = some (cI, .int))
    {i : Int32} (hi : i = nI n) (hn : n ≤ 1000) (hcells : cells + (1 + n) ≤ R.cells) (hslots : slots + (n + n * 3) ≤ R.slots) (hdg : decode cc pc = .ok (.multianewarray index 2, 4))
    (kk : ∀ (q : Nat) (r : Nat → Nat) (H1 : Heap), va_P D vwCl (ws ++ ((q, .inl (cA, n, .inr (.inr (.inr (.inr (fun i => some (r i))))))) :: (List.range n).map (fun i => (r i, .inl (cI, 3, .inl (fun _ => 0)))))) H1 → va_D A (ws ++ ((q, .inl (cA, n, .inr (.inr (.inr (.inr (fun i => some (r i))))))) :: (List.range n).map (fun i => (r i, .inl (cI, 3, .inl (fun _ => 0)))))) → va_S A s.heap H1 locs → W p l e R s m args below meth c H1 locs (cells + 1 + n) (slots + n + n * 3) Q (F0 m (pc + 4) ls (.ref q :: rest))) : W p l e R s m args below meth c H locs cells slots Q (F0 m pc ls (.int 3 :: .int i :: rest)) := by
  have hc : i.toNatClampNeg = n := by rw [hi]; exact nI_clamp (by omega)
  have e1 : s.vm.findClass ("[" ++ (FieldType.array .int).toString) = some cA := (hK.2 3 _ ht).2
  have e2 : s.vm.findClass (FieldType.array .int).toString = some cI := (hK.2 0 _ ht0).2
  have hP' : va_P D vwCl (ws ++ va_pl [] (fun _ => .inl (cI, 3, .inl (fun _ => 0)))) H := by
    show va_P D vwCl (ws ++ []) H
    rw [List.append_nil]
    exact hP
  have hD' : va_D A (ws ++ va_pl [] (fun _ => .inl (cI, 3, .inl (fun _ => 0)))) := by
    show va_D A (ws ++ [])
    rw [List.append_nil]
    exact hD
  refine va_mna (ty := .int) (cy := cI) (z := (3, .inl (fun _ => 0))) (K' := 3) hx hb hown hcl hAA harr e2 hK hP' hD' hS hA (by rw [hi]; exact nI_pos (by omega)) (by decide) hc (by decide) (by omega) (by decide) (by decide) (by decide) (by decide) hcells hslots (fun c => ?_) hdg (fun q r cB H1 hr1 hr2 hK1 hP1 hD1 hS1 => ?_)
  · rw [vp_cell_i, ← arrV_new]
    rfl
  · have f1 : s.vm.findClass ("[" ++ (FieldType.array .int).toString) = some cB := by
      have h := (hK1.2 tys.length (cB, .array .int) (by simp)).2
      exact h
    cases e1.symm.trans f1
    have ew : (ws ++ [(q, (.inl (cA, n, .inr (.inr (.inr (.inr (fun i => if i < n then some (r i) else none))))) : va_E))]) ++ va_pl ([] ++ (List.range n).map r) (vr_up (fun _ => .inl (cI, 3, .inl (fun _ => 0))) ((List.range n).map r) (.inl (cI, 3, .inl (fun _ => 0)))) = ws ++ ((q, .inl (cA, n, .inr (.inr (.inr (.inr (fun i => if i < n then some (r i) else none)))))) :: (List.range n).map (fun i => (r i, .inl (cI, 3, .inl (fun _ => 0))))) := by
      rw [List.append_assoc]
      congr 1
      show _ :: _ = _ :: _
      congr 1
      unfold va_pl
      rw [List.nil_append, List.map_map]
      refine List.map_congr_left (fun i hi9 => ?_)
      show (r i, vr_up _ _ _ (r i)) = _
      rw [vr_up_in (List.mem_map.mpr ⟨i, hi9, rfl⟩)]
    rw [ew] at hP1 hD1
    have hg : (ws ++ ((q, (.inl (cA, n, .inr (.inr (.inr (.inr (fun i => if i < n then some (r i) else none))))) : va_E)) :: (List.range n).map (fun i => (r i, .inl (cI, 3, .inl (fun _ => 0))))))[ws.length]? = some (q, .inl (cA, n, .inr (.inr (.inr (.inr (fun i => if i < n then some (r i) else none)))))) := by
      rw [List.getElem?_append_right (Nat.le_refl _), Nat.sub_self]
      rfl
    have hP2 := P_qarr hP1 ws.length hg (f' := fun i => some (r i)) (fun j hj => if_pos hj)
    have es : ∀ x, (ws ++ ((q, (.inl (cA, n, .inr (.inr (.inr (.inr (fun i => if i < n then some (r i) else none))))) : va_E)) :: (List.range n).map (fun i => (r i, (.inl (cI, 3, .inl (fun _ => 0)) : va_E))))).set ws.length (q, x) = ws ++ ((q, x) :: (List.range n).map (fun i => (r i, .inl (cI, 3, .inl (fun _ => 0))))) := fun x => by
      rw [List.set_append_right _ _ (Nat.le_refl _), Nat.sub_self]
      rfl
    rw [es] at hP2
    exact kk q r H1 hP2 (D_fst (by rw [List.map_append, List.map_append]; rfl) hD1) hS1
end KR
