/-! the worlds: A 0 the cellar, A 1 .. A 4 its rows, A 5 .. A 8 the churns, A 9 .. A 14 the tubs; M 0 the reference, M 1 .. M 3 its rows.
    f holds what the reference's row s holds: 0 hour, 1 .. 4 stock, 5 coins, 6 sent away, 7 + 3 i churn i (cold, cream, firm), 19 + 3 i tub i (scoops, soft, sold); g the heats -/
def stk (a b c d : Int32) (k : Nat) : Int32 := if k = 0 then a else if k = 1 then b else if k = 2 then c else if k = 3 then d else 0
def set3 (f : Nat → Int32) (k : Nat) (x y z : Int32) (j : Nat) : Int32 := if j = k then x else if j = k + 1 then y else if j = k + 2 then z else f j
def CW (cI cC cT : ClassId) (A : Nat → Nat) (nc nt : Nat) (f g : Nat → Int32) : va_W :=
  [(A 0, .inr (0, [.ref (A 1), .ref (A 2), .ref (A 3), .ref (A 4), .int (nI nc), .int (nI nt), .int (f 0), .int (f 5), .int (f 6)])),
   (A 1, .inl (cI, 4, .inl (stk (f 1) (f 2) (f 3) (f 4)))), (A 2, .inl (cI, 7, .inl g)),
   (A 3, .inl (cC, 4, .inr (.inr (.inr (.inr (fun i => some (A (5 + i)))))))), (A 4, .inl (cT, 6, .inr (.inr (.inr (.inr (fun i => some (A (9 + i)))))))),
   (A 5, .inr (1, [.int (f 7), .int (f 8), .int (f 9)])), (A 6, .inr (1, [.int (f 10), .int (f 11), .int (f 12)])), (A 7, .inr (1, [.int (f 13), .int (f 14), .int (f 15)])), (A 8, .inr (1, [.int (f 16), .int (f 17), .int (f 18)])),
   (A 9, .inr (2, [.int (f 19), .int (f 20), .int (f 21)])), (A 10, .inr (2, [.int (f 22), .int (f 23), .int (f 24)])), (A 11, .inr (2, [.int (f 25), .int (f 26), .int (f 27)])),
   (A 12, .inr (2, [.int (f 28), .int (f 29), .int (f 30)])), (A 13, .inr (2, [.int (f 31), .int (f 32), .int (f 33)])), (A 14, .inr (2, [.int (f 34), .int (f 35), .int (f 36)]))]
def XW (cI cC cT : ClassId) (x : Nat) (A B : Nat → Nat) (nc nt : Nat) (f g : Nat → Int32) (nc2 nt2 : Nat) (f2 g2 : Nat → Int32) : va_W :=
  (x, .inr (3, [.ref (A 0), .ref (B 0)])) :: (CW cI cC cT A nc nt f g ++ CW cI cC cT B nc2 nt2 f2 g2)
theorem P_eq {D : va_G} {ws ws' : va_W} {H : Heap} (e : ws = ws') (h : va_P D vwCl ws H) : va_P D vwCl ws' H := e ▸ h
theorem D_fst {A : Nat → Prop} {ws ws' : va_W} (e : ws.map (fun q => q.1) = ws'.map (fun q => q.1)) (h : va_D A ws) : va_D A ws' := by
  obtain ⟨h1, h2⟩ := dn_of h
  refine dn_to (e ▸ h1) (fun q hq => ?_)
  have : q.1 ∈ ws.map (fun q => q.1) := by rw [e]; exact List.mem_map.mpr ⟨q, hq, rfl⟩
  obtain ⟨p, hp, hpq⟩ := List.mem_map.mp this
  rw [← hpq]; exact h2 p hp
theorem stk_upd {a b c d : Int32} (j : Nat) (hj : j < 4) (x : Int32) (f : Nat → Int32) (h1 : f 1 = a) (h2 : f 2 = b) (h3 : f 3 = c) (h4 : f 4 = d) : upd (stk a b c d) j x = stk (upd f (j + 1) x 1) (upd f (j + 1) x 2) (upd f (j + 1) x 3) (upd f (j + 1) x 4) := by
  subst h1; subst h2; subst h3; subst h4
  funext k
  match j, hj with
  | 0, _ => by_cases h : k = 0 <;> simp [upd, stk, h]
  | 1, _ => by_cases h : k = 1 <;> simp [upd, stk, h]
  | 2, _ => by_cases h : k = 2 <;> simp [upd, stk, h]
  | 3, _ => by_cases h : k = 3 <;> simp [upd, stk, h]
theorem cw_stock {cI cC cT : ClassId} {A : Nat → Nat} {nc nt : Nat} {f g : Nat → Int32} (j : Nat) (hj : j < 4) (x : Int32) : (CW cI cC cT A nc nt f g).set 1 (A 1, .inl (cI, 4, .inl (upd (stk (f 1) (f 2) (f 3) (f 4)) j x))) = CW cI cC cT A nc nt (upd f (j + 1) x) g := by
  rw [stk_upd j hj x f rfl rfl rfl rfl]
  match j, hj with
  | 0, _ => rfl
  | 1, _ => rfl
  | 2, _ => rfl
  | 3, _ => rfl
theorem cw_churn {cI cC cT : ClassId} {A : Nat → Nat} {nc nt : Nat} {f g : Nat → Int32} (i : Nat) (hi : i < 4) (x y z : Int32) : (CW cI cC cT A nc nt f g).set (5 + i) (A (5 + i), .inr (1, [.int x, .int y, .int z])) = CW cI cC cT A nc nt (set3 f (7 + 3 * i) x y z) g := by
  match i, hi with
  | 0, _ => rfl
  | 1, _ => rfl
  | 2, _ => rfl
  | 3, _ => rfl
theorem cw_tub {cI cC cT : ClassId} {A : Nat → Nat} {nc nt : Nat} {f g : Nat → Int32} (i : Nat) (hi : i < 6) (x y z : Int32) : (CW cI cC cT A nc nt f g).set (9 + i) (A (9 + i), .inr (2, [.int x, .int y, .int z])) = CW cI cC cT A nc nt (set3 f (19 + 3 * i) x y z) g := by
  match i, hi with
  | 0, _ => rfl
  | 1, _ => rfl
  | 2, _ => rfl
  | 3, _ => rfl
  | 4, _ => rfl
  | 5, _ => rfl
theorem cw_gchurn {cI cC cT : ClassId} {A : Nat → Nat} {nc nt : Nat} {f g : Nat → Int32} (i : Nat) (hi : i < 4) : (CW cI cC cT A nc nt f g)[5 + i]? = some (A (5 + i), .inr (1, [.int (f (7 + 3 * i)), .int (f (8 + 3 * i)), .int (f (9 + 3 * i))])) := by
  match i, hi with
  | 0, _ => rfl
  | 1, _ => rfl
  | 2, _ => rfl
  | 3, _ => rfl
theorem cw_gtub {cI cC cT : ClassId} {A : Nat → Nat} {nc nt : Nat} {f g : Nat → Int32} (i : Nat) (hi : i < 6) : (CW cI cC cT A nc nt f g)[9 + i]? = some (A (9 + i), .inr (2, [.int (f (19 + 3 * i)), .int (f (20 + 3 * i)), .int (f (21 + 3 * i))])) := by
  match i, hi with
  | 0, _ => rfl
  | 1, _ => rfl
  | 2, _ => rfl
  | 3, _ => rfl
  | 4, _ => rfl
  | 5, _ => rfl
section KR
variable {p : Program} {l : Launch} {e : Env} {R : Room} {s : State} {m : MethodId} {args : Array Value} {below : List Frame} {meth : Method} {c : Code} {H : Heap} {locs : List Loc} {cells slots : Nat} {Q : State → Prop}
variable {cc : ByteArray} {pc : Nat} {ls : Array Slot} {rest : List Value} {A : Nat → Prop} {D : va_G} {tys : List (ClassId × FieldType)} {ws ws' : va_W} {a : Nat} {cA : ClassId} {n : Nat}
theorem nin {i : Int32} {j n : Nat} (hi : i = nI j) (hj : j < n) (hn : n < 2 ^ 31) : vp_in i n := by subst hi; exact vp_in_nI hj hn
theorem w_ild (hx : p.tables.exec = Jvm.exec) (hb : c.code = cc) (hK : va_K D vwCl tys s) (hP : va_P D vwCl ws H) (q0 t0 : Nat) {f : Nat → Int32} (ha : ws[q0]? = some (a, .inl (cA, n, .inl f))) (ht : tys[t0]? = some (cA, .int)) {i v : Int32} (j : Nat) (hi : i = nI j) (hj : j < n) (hn : n < 2 ^ 31) (hv : f j = v) (hdg : decode cc pc = .ok (.iaload, 1))
    (kk : W p l e R s m args below meth c H locs cells slots Q (F0 m (pc + 1) ls (.int v :: rest))) : W p l e R s m args below meth c H locs cells slots Q (F0 m pc ls (.int i :: .ref a :: rest)) := by
  refine va_iald hx hb hK hP q0 t0 ha ht (nin hi hj hn) hdg ?_
  rw [hi, nI_clamp (Nat.lt_trans hj hn), hv]
  exact kk
theorem w_ist (hx : p.tables.exec = Jvm.exec) (hb : c.code = cc) (hK : va_K D vwCl tys s) (hP : va_P D vwCl ws H) (hD : va_D A ws) (hS : va_S A s.heap H locs) (q0 t0 : Nat) {f : Nat → Int32} (ha : ws[q0]? = some (a, .inl (cA, n, .inl f))) (ht : tys[t0]? = some (cA, .int)) {i x : Int32} (j : Nat) (hi : i = nI j) (hj : j < n) (hn : n < 2 ^ 31) (hw : ws.set q0 (a, .inl (cA, n, .inl (upd f j x))) = ws') (hdg : decode cc pc = .ok (.iastore, 1))
    (kk : ∀ (H1 : Heap) (locs1 : List Loc), va_P D vwCl ws' H1 → va_D A ws' → va_S A s.heap H1 locs1 → W p l e R s m args below meth c H1 locs1 cells slots Q (F0 m (pc + 1) ls rest)) : W p l e R s m args below meth c H locs cells slots Q (F0 m pc ls (.int x :: .int i :: .ref a :: rest)) := by
  refine va_iast hx hb hK hP hD hS q0 t0 ha ht (nin hi hj hn) hdg (fun H1 locs1 hP1 hD1 hS1 => ?_)
  rw [hi, nI_clamp (Nat.lt_trans hj hn), hw] at hP1 hD1
  exact kk H1 locs1 hP1 hD1 hS1
theorem w_lst (hx : p.tables.exec = Jvm.exec) (hb : c.code = cc) (hK : va_K D vwCl tys s) (hP : va_P D vwCl ws H) (hD : va_D A ws) (hS : va_S A s.heap H locs) (q0 t0 : Nat) {f : Nat → Int64} (ha : ws[q0]? = some (a, .inl (cA, n, .inr (.inl f)))) (ht : tys[t0]? = some (cA, .long)) {i : Int32} {x : Int64} (j : Nat) (hi : i = nI j) (hj : j < n) (hn : n < 2 ^ 31) (hw : ws.set q0 (a, .inl (cA, n, .inr (.inl (vp_updL f j x)))) = ws') (hdg : decode cc pc = .ok (.lastore, 1))
    (kk : ∀ (H1 : Heap) (locs1 : List Loc), va_P D vwCl ws' H1 → va_D A ws' → va_S A s.heap H1 locs1 → W p l e R s m args below meth c H1 locs1 cells slots Q (F0 m (pc + 1) ls rest)) : W p l e R s m args below meth c H locs cells slots Q (F0 m pc ls (.long x :: .int i :: .ref a :: rest)) := by
  refine va_last hx hb hK hP hD hS q0 t0 ha ht (nin hi hj hn) hdg (fun H1 locs1 hP1 hD1 hS1 => ?_)
  rw [hi, nI_clamp (Nat.lt_trans hj hn), hw] at hP1 hD1
  exact kk H1 locs1 hP1 hD1 hS1
theorem w_lld (hx : p.tables.exec = Jvm.exec) (hb : c.code = cc) (hK : va_K D vwCl tys s) (hP : va_P D vwCl ws H) (q0 t0 : Nat) {f : Nat → Int64} (ha : ws[q0]? = some (a, .inl (cA, n, .inr (.inl f)))) (ht : tys[t0]? = some (cA, .long)) {i : Int32} {v : Int64} (j : Nat) (hi : i = nI j) (hj : j < n) (hn : n < 2 ^ 31) (hv : f j = v) (hdg : decode cc pc = .ok (.laload, 1))
    (kk : W p l e R s m args below meth c H locs cells slots Q (F0 m (pc + 1) ls (.long v :: rest))) : W p l e R s m args below meth c H locs cells slots Q (F0 m pc ls (.int i :: .ref a :: rest)) := by
  refine va_lald hx hb hK hP q0 t0 ha ht (nin hi hj hn) hdg ?_
  rw [hi, nI_clamp (Nat.lt_trans hj hn), hv]
  exact kk
theorem w_qld (hx : p.tables.exec = Jvm.exec) (hb : c.code = cc) (hK : va_K D vwCl tys s) (hP : va_P D vwCl ws H) (q0 t0 : Nat) {C : String} {f : Nat → Option Nat} (ha : ws[q0]? = some (a, .inl (cA, n, .inr (.inr (.inr (.inr f)))))) (ht : tys[t0]? = some (cA, .object C)) {i : Int32} {v : Nat} (j : Nat) (hi : i = nI j) (hj : j < n) (hn : n < 2 ^ 31) (hv : f j = some v) (hdg : decode cc pc = .ok (.aaload, 1))
    (kk : W p l e R s m args below meth c H locs cells slots Q (F0 m (pc + 1) ls (.ref v :: rest))) : W p l e R s m args below meth c H locs cells slots Q (F0 m pc ls (.int i :: .ref a :: rest)) := by
  refine va_aldq hx hb hK hP q0 t0 ha ht (nin hi hj hn) hdg ?_
  rw [hi, nI_clamp (Nat.lt_trans hj hn), hv]
  exact kk
theorem w_put {own ref C : String} {T : u_T} {N ci index : Nat} {Ts : List Cond} {ty0 : Nat → FieldType} {fs : List Value} {v : Value} (hx : p.tables.exec = Jvm.exec) (hb : c.code = cc) (hts : ∀ w ∈ Ts, w.before args s = true) (hin : ∀ w ∈ u_ws C T N, w ∈ Ts) (hty : ∀ k, k < N → parseFieldDescriptor (T k).2.2.1 = some (ty0 k)) (hnm : ∀ a, a < N → ∀ b, b < N → a ≠ b → (T a).2.1 ≠ (T b).2.1) (hown : s.vm.findClass own = some m.cls) (hK : va_K D vwCl tys s) (hP : va_P D vwCl ws H) (hD : va_D A ws) (hS : va_S A s.heap H locs)
    (q0 : Nat) (he : ws[q0]? = some (a, .inr (ci, fs))) (hc : vwCl[ci]? = some (C, T, N)) (k : Nat) (hk : k < N) (hlink : Cond.fieldLink own index ref (T k).2.1 (T k).2.2.1 ∈ Ts) (href : (T k).1 = ref) (hfin : (T k).2.2.2 = false) (hn : narrow (ty0 k) v = v) (hfit : fits (ty0 k) v = true) (hl : k < fs.length) (hw : ws.set q0 (a, .inr (ci, fs.set k v)) = ws') (hdg : decode cc pc = .ok (.putfield index, 3))
    (kk : ∀ (H1 : Heap) (locs1 : List Loc), va_P D vwCl ws' H1 → va_D A ws' → va_S A s.heap H1 locs1 → W p l e R s m args below meth c H1 locs1 cells slots Q (F0 m (pc + 3) ls rest)) : W p l e R s m args below meth c H locs cells slots Q (F0 m pc ls (v :: .ref a :: rest)) := by
  subst hw
  exact va_put hx hb hts hin ty0 hty hnm hown hK hP hD hS q0 he hc k hk (hts _ hlink) (fun x h => href ▸ h) hfin (hty k hk) hn hfit hl hdg kk
theorem w_putN {own ref C : String} {T : u_T} {N ci index : Nat} {Ts : List Cond} {ty0 : Nat → FieldType} {fs : List Value} {v : Value} (hx : p.tables.exec = Jvm.exec) (hb : c.code = cc) (hts : ∀ w ∈ Ts, w.before args s = true) (hin : ∀ w ∈ u_ws C T N, w ∈ Ts) (hty : ∀ k, k < N → parseFieldDescriptor (T k).2.2.1 = some (ty0 k)) (hnm : ∀ a, a < N → ∀ b, b < N → a ≠ b → (T a).2.1 ≠ (T b).2.1) (hown : s.vm.findClass own = some m.cls) (hK : va_K D vwCl tys s) (hST : ST A s) (hP : va_P D vwCl ws H) (hD : va_D A ws) (hS : va_S A s.heap H locs)
    (q0 : Nat) (he : ws[q0]? = some (a, .inr (ci, fs))) (hc : vwCl[ci]? = some (C, T, N)) (k : Nat) (hk : k < N) (i : Nat) (hlink : NF[i]? = some (own, index, ref, (T k).2.1, (T k).2.2.1)) (href : (T k).1 = ref) (hfin : (T k).2.2.2 = false) (hn : narrow (ty0 k) v = v) (hfit : fits (ty0 k) v = true) (hl : k < fs.length) (hw : ws.set q0 (a, .inr (ci, fs.set k v)) = ws') (hdg : decode cc pc = .ok (.putfield index, 3))
    (kk : ∀ (H1 : Heap) (locs1 : List Loc), va_P D vwCl ws' H1 → va_D A ws' → va_S A s.heap H1 locs1 → W p l e R s m args below meth c H1 locs1 cells slots Q (F0 m (pc + 3) ls rest)) : W p l e R s m args below meth c H locs cells slots Q (F0 m pc ls (v :: .ref a :: rest)) := by
  subst hw
  exact va_putN hx hb hts hin ty0 hty hnm hown hK hP hD hS q0 he hc k hk (va_Nw.use rfl (hST.1 _ (List.mem_of_getElem? hlink))) (fun x h => href ▸ h) hfin (hty k hk) hn hfit hl hdg kk
theorem w_get {own ref C : String} {T : u_T} {N ci index : Nat} {Ts : List Cond} {fs : List Value} {v : Value} (hx : p.tables.exec = Jvm.exec) (hb : c.code = cc) (hts : ∀ w ∈ Ts, w.before args s = true) (hin : ∀ w ∈ u_ws C T N, w ∈ Ts) (hown : s.vm.findClass own = some m.cls) (hK : va_K D vwCl tys s) (hP : va_P D vwCl ws H)
    (q0 : Nat) (he : ws[q0]? = some (a, .inr (ci, fs))) (hc : vwCl[ci]? = some (C, T, N)) (k : Nat) (hk : k < N) (hlink : Cond.fieldLink own index ref (T k).2.1 (T k).2.2.1 ∈ Ts) (href : (T k).1 = ref) (hv : fs[k]? = some v) (hdg : decode cc pc = .ok (.getfield index, 3))
    (kk : W p l e R s m args below meth c H locs cells slots Q (F0 m (pc + 3) ls (v :: rest))) : W p l e R s m args below meth c H locs cells slots Q (F0 m pc ls (.ref a :: rest)) :=
  va_get hx hb hts hin hown hK hP q0 he hc k hk (hts _ hlink) (fun x h => href ▸ h) hv hdg kk
theorem w_getN {own ref C : String} {T : u_T} {N ci index : Nat} {Ts : List Cond} {fs : List Value} {v : Value} (hx : p.tables.exec = Jvm.exec) (hb : c.code = cc) (hts : ∀ w ∈ Ts, w.before args s = true) (hin : ∀ w ∈ u_ws C T N, w ∈ Ts) (hown : s.vm.findClass own = some m.cls) (hK : va_K D vwCl tys s) (hST : ST A s) (hP : va_P D vwCl ws H)
    (q0 : Nat) (he : ws[q0]? = some (a, .inr (ci, fs))) (hc : vwCl[ci]? = some (C, T, N)) (k : Nat) (hk : k < N) (i : Nat) (hlink : NF[i]? = some (own, index, ref, (T k).2.1, (T k).2.2.1)) (href : (T k).1 = ref) (hv : fs[k]? = some v) (hdg : decode cc pc = .ok (.getfield index, 3))
    (kk : W p l e R s m args below meth c H locs cells slots Q (F0 m (pc + 3) ls (v :: rest))) : W p l e R s m args below meth c H locs cells slots Q (F0 m pc ls (.ref a :: rest)) :=
  va_getN hx hb hts hin hown hK hP q0 he hc k hk (va_Nw.use rfl (hST.1 _ (List.mem_of_getElem? hlink))) (fun x h => href ▸ h) hv hdg kk
end KR
