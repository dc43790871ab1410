/-! more of the reference's side: the next tub, an hour at a churn, the salt -/
theorem nar_inB {v lo hi : Int32} : narrow .boolean (.int (inB v lo hi)) = .int (inB v lo hi) := by
  unfold inB
  split <;> rfl
theorem nx_stay {f : Nat → Int32} {j k : Nat} (hk : nI k = nxt f j) (hkj : k < j) (hj : j < 2 ^ 31) (h : f (20 + 3 * k) ≤ f (20 + 3 * j)) : nI k = nxt f (j + 1) := by
  have e : nxt f (j + 1) = nxt f j := by
    refine if_neg (fun q => ?_)
    rcases q.2 with q | q
    · rw [← hk] at q
      exact nI_ne_m1 (by omega) q
    · rw [← hk, nI_clamp (by omega)] at q
      exact absurd h (Int32.not_le.mpr q)
  rw [e, hk]
theorem nx_new {f : Nat → Int32} {j k : Nat} (hk : nI k = nxt f j) (hkj : k < j) (hj : j < 2 ^ 31) (h0 : ¬ f (19 + 3 * j) ≤ 0) (h : ¬ f (20 + 3 * k) ≤ f (20 + 3 * j)) : nI j = nxt f (j + 1) := by
  refine (if_pos ⟨Int32.not_le.mp h0, Or.inr ?_⟩).symm
  rw [← hk, nI_clamp (by omega)]
  exact Int32.not_le.mp h
theorem nx_first {f : Nat → Int32} {j : Nat} {bt : Int32} (hb : bt = nxt f j) (h0 : ¬ f (19 + 3 * j) ≤ 0) (h1 : bt = -1) : nI j = nxt f (j + 1) := by
  refine (if_pos ⟨Int32.not_le.mp h0, Or.inl ?_⟩).symm
  rw [← hb, h1]
theorem nx_skip {f : Nat → Int32} {j : Nat} {bt : Int32} (hb : bt = nxt f j) (h0 : f (19 + 3 * j) ≤ 0) : bt = nxt f (j + 1) := by rw [(sel_a h0).1, hb]
theorem nx_k {f : Nat → Int32} {j : Nat} {bt : Int32} (hb : bt = nxt f j) (h1 : ¬ bt = -1) : ∃ k, k < j ∧ bt = nI k := by
  rcases nxt_in f j with q | ⟨k, hk, q, -⟩
  · exact absurd (hb.trans q) h1
  · exact ⟨k, hk, hb.trans q⟩
theorem stnd_0 {f : Nat → Int32} {i : Nat} {hot : Int32} (h : f (19 + 3 * i) = 0) : f = stand1 hot i f := by
  unfold stand1
  rw [standA, standB, if_pos h, if_pos h, show 20 + 3 * i = 19 + 3 * i + 1 by omega, show 21 + 3 * i = 19 + 3 * i + 2 by omega, s3_self]
theorem bd_pos {x : Int32} {n : Int} (h : Bd0 x n) (h0 : ¬ x = 0) : 0 < x := by
  rw [i_lt, show (0 : Int32).toInt = 0 by decide]
  rw [i_eq, show (0 : Int32).toInt = 0 by decide] at h0
  have := h.1
  omega
theorem fo_forg {f : Nat → Int32} {k : Nat} (hk : k < 19) : ∀ n, fo forg1 n f k = f k := by
  intro n
  induction n with
  | zero => rfl
  | succ n ih => exact (s3_o (k := 19 + 3 * n) (Or.inl (by omega))).trans ih
theorem fo_stand {f : Nat → Int32} {hot : Int32} {k : Nat} (hk : k < 19) : ∀ n, fo (stand1 hot) n f k = f k := by
  intro n
  induction n with
  | zero => rfl
  | succ n ih => exact (s3_o (k := 19 + 3 * n) (Or.inl (by omega))).trans ih
theorem sell_o {f : Nat → Int32} {nt k : Nat} (h7 : 7 ≤ k) (hk : k < 19) : sell1 nt f k = f k := by
  unfold sell1
  split
  · exact up_o (by omega)
  · unfold sellT
    rw [up_o (by omega), s3_o (Or.inl (by omega)), up_o (by omega)]
theorem serve_o {f : Nat → Int32} {nt k : Nat} {hot : Int32} (h7 : 7 ≤ k) (hk : k < 19) : serveF nt hot f k = f k := by
  unfold serveF
  split
  · generalize (hot / 4).toNatClampNeg = n
    induction n with
    | zero => rfl
    | succ n ih => exact (sell_o h7 hk).trans ih
  · rfl
theorem fo_turn {f : Nat → Int32} {hot : Int32} : ∀ n i, (n ≤ i → fo (turn1 hot) n f (7 + 3 * i) = f (7 + 3 * i) ∧ fo (turn1 hot) n f (8 + 3 * i) = f (8 + 3 * i) ∧ fo (turn1 hot) n f (9 + 3 * i) = f (9 + 3 * i)) ∧
    (i < n → fo (turn1 hot) n f (7 + 3 * i) = coldA (f (7 + 3 * i)) hot ∧ fo (turn1 hot) n f (8 + 3 * i) = f (8 + 3 * i) ∧ fo (turn1 hot) n f (9 + 3 * i) = turnF (f (7 + 3 * i)) (f (8 + 3 * i)) (f (9 + 3 * i))) := by
  intro n
  induction n with
  | zero => exact fun i => ⟨fun _ => ⟨rfl, rfl, rfl⟩, fun h => absurd h (Nat.not_lt_zero _)⟩
  | succ n ih =>
    intro i
    have e : fo (turn1 hot) (n + 1) f = turn1 hot n (fo (turn1 hot) n f) := rfl
    rw [e]
    by_cases hi : i = n
    · subst hi
      refine ⟨fun h => absurd h (by omega), fun _ => ?_⟩
      obtain ⟨h1, h2, h3⟩ := (ih i).1 (Nat.le_refl _)
      generalize fo (turn1 hot) i f = F at h1 h2 h3
      unfold turn1
      rw [h1, h2, h3, show 8 + 3 * i = 7 + 3 * i + 1 by omega, show 9 + 3 * i = 7 + 3 * i + 2 by omega, s3_0, s3_1, s3_2]
      exact ⟨rfl, rfl, rfl⟩
    · have g1 : ∀ k, (k < 7 + 3 * n ∨ 7 + 3 * n + 3 ≤ k) → turn1 hot n (fo (turn1 hot) n f) k = fo (turn1 hot) n f k := fun k hk => s3_o hk
      rw [g1 _ (by omega), g1 _ (by omega), g1 _ (by omega)]
      exact ⟨fun h => (ih i).1 (by omega), fun h => (ih i).2 (by omega)⟩
theorem hour_ch {f g : Nat → Int32} {nc nt i : Nat} (hnc : nc ≤ 4) (hi : i < nc) : hourF nc nt g f (7 + 3 * i) = coldA (f (7 + 3 * i)) (hotOf f g) ∧ hourF nc nt g f (8 + 3 * i) = f (8 + 3 * i) ∧ hourF nc nt g f (9 + 3 * i) = turnF (f (7 + 3 * i)) (f (8 + 3 * i)) (f (9 + 3 * i)) := by
  have e : ∀ k, 7 ≤ k → k < 19 → hourF nc nt g f k = fo (turn1 (hotOf f g)) nc f k := fun k h7 hk => by
    unfold hourF hourT tickF ice1
    rw [fo_forg hk, up_o (by omega), up_o (by omega), serve_o h7 hk, fo_stand hk]
  rw [e _ (by omega) (by omega), e _ (by omega) (by omega), e _ (by omega) (by omega)]
  exact (fo_turn nc i).2 hi
theorem hours_ch {f g : Nat → Int32} (hI : Inv f) (hg : Gd g) {nc nt i h : Nat} (hnc : nc ≤ 4) (hnt : nt ≤ 6) (h0 : f 0 = nI h) (hi : i < nc) (hp : 0 < f (8 + 3 * i)) : ∀ n, h + n < 2 ^ 30 →
    rep (hourF nc nt g) n f (7 + 3 * i) = coldN g h (f (7 + 3 * i)) n ∧ rep (hourF nc nt g) n f (8 + 3 * i) = f (8 + 3 * i) ∧ rep (hourF nc nt g) n f (9 + 3 * i) = firmN g h (f (7 + 3 * i)) (f (9 + 3 * i)) n := by
  intro n
  induction n with
  | zero => exact fun _ => ⟨rfl, rfl, rfl⟩
  | succ n ih =>
    intro hn
    obtain ⟨h1, h2, h3⟩ := ih (by omega)
    have hh := (Inv.hours hI hg hnc hnt h0 n (by omega)).2
    have e : rep (hourF nc nt g) (n + 1) f = hourF nc nt g (rep (hourF nc nt g) n f) := rfl
    have ht : hotOf (rep (hourF nc nt g) n f) g = g ((h + n) / 24 % 7) := by rw [hotOf, hrN, hh, nI_clamp (by omega)]
    obtain ⟨k1, k2, k3⟩ := hour_ch (f := rep (hourF nc nt g) n f) (g := g) (nt := nt) hnc hi
    rw [e, k1, k2, k3, h1, h2, h3, ht, turnF, if_pos hp]
    exact ⟨rfl, rfl, rfl⟩
def sB (d x : Nat) : Nat := min (2 * (x / 4)) (30 - d - x / 4)
theorem brine_n {d x t : Nat} (hd : d ≤ 30) (hx : x ≤ 60) (ht : t ≤ 61) : brine (nI d) (nI x) (nI t) = nI (min 30 (d + x / 4 + min t (2 * (x / 4)))) := by
  have e4 : nI x / 4 = nI (x / 4) := dv (d := 4) (by omega) (by decide) (by decide)
  have e2 : (2 : Int32) = nI 2 := rfl
  have e30 : (30 : Int32) = nI 30 := rfl
  rw [brine, e4, e2, pk_mul, mn_n (by omega) (by omega), nI_add, nI_add, e30, mn_n (by decide) (by omega)]
theorem salt_gt {d x j : Nat} (hd : d ≤ 30) (hx : x ≤ 60) (hj : j < 60) : (brine (nI d) (nI x) (nI (j + 1)) ≤ brine (nI d) (nI x) (nI (min j (sB d x))) → nI (min j (sB d x)) = nI (min (j + 1) (sB d x))) ∧ (¬ brine (nI d) (nI x) (nI (j + 1)) ≤ brine (nI d) (nI x) (nI (min j (sB d x))) → nI (j + 1) = nI (min (j + 1) (sB d x))) := by
  rw [brine_n hd hx (by omega), brine_n hd hx (by omega), nI_leI (by omega) (by omega)]
  unfold sB
  refine ⟨fun h => congrArg nI ?_, fun h => congrArg nI ?_⟩ <;> omega
theorem salt_end {f : Nat → Int32} {i d x : Nat} (hf : f (7 + 3 * i) = nI d) (hd : d ≤ 30) (hx : x ≤ 60) : nI (min 60 (sB d x)) = saltR f i (nI x) := by
  have e4 : nI x / 4 = nI (x / 4) := dv (d := 4) (by omega) (by decide) (by decide)
  have e2 : (2 : Int32) = nI 2 := rfl
  have e30 : (30 : Int32) = nI 30 := rfl
  rw [saltR, hf, e4, e30, pk_sub (by omega), mx_sub (by omega) (by omega), e2, pk_mul, mn_n (by omega) (by omega)]
  unfold sB
  refine congrArg nI ?_
  omega
theorem imx_pos {x : Int32} (h : ¬ x ≤ 0) : imx 0 x = x := if_pos (Int32.not_le.mp h)
theorem imx_neg {x : Int32} (h : x ≤ 0) : imx 0 x = 0 := if_neg (Int32.not_lt.mpr h)
theorem le_ne {x : Int32} (h : ¬ x ≤ 0) : ¬ x = 0 := fun q => h (by rw [q]; decide)
theorem at_sub {f : Nat → Int32} {h j : Nat} (h0 : f 0 = nI h) : nI (h + j) - f 0 = nI j := by
  rw [h0, ← nI_add, Int32.add_comm, Int32.add_sub_cancel]
theorem ice_t {f g : Nat → Int32} {h j : Nat} {lf : Int32} (h0 : f 0 = nI h) (hf : iceN f g h j = imx 0 lf) (hl : ¬ lf ≤ 0) (h4 : nI (h + j) - nI (h + j) / 4 * 4 = 0) : iceN f g h (j + 1) = imx 0 (lf - g ((h + j) / 24 % 7) / 5) := by
  have e : iceN f g h (j + 1) = iceA (iceN f g h j) (f 0 + nI j) (g ((h + j) / 24 % 7)) := rfl
  rw [e, hf, imx_pos hl, h0, nI_add, iceA, if_pos h4]
theorem ice_f {f g : Nat → Int32} {h j : Nat} {lf : Int32} (h0 : f 0 = nI h) (hf : iceN f g h j = imx 0 lf) (h4 : ¬ nI (h + j) - nI (h + j) / 4 * 4 = 0) : iceN f g h (j + 1) = imx 0 lf := by
  have e : iceN f g h (j + 1) = iceA (iceN f g h j) (f 0 + nI j) (g ((h + j) / 24 % 7)) := rfl
  rw [e, hf, h0, nI_add, iceA, if_neg h4]
section MM
variable {p : Program} {l : Launch} {e : Env} {R : Room} {s : State} {m : MethodId} {args : Array Value} {below : List Frame} {meth : Method} {c : Code} {H : Heap} {locs : List Loc} {cells slots : Nat} {Q : State → Prop} {pc : Nat} {ls : Array Slot} {rest : List Value}
theorem w_mmin {cc : ByteArray} (hexec : p.tables.exec = Jvm.exec) (hb : c.code = cc) (hml : c.maxLocals = ls.size) {own : String} {index : Nat} (hown : s.vm.findClass own = some m.cls) (hlink : (Cond.methodLink own index Lib.Math.min.name).before args s = true) (hstat : (Cond.static Lib.Math.min.name).before args s = true) (hini : (Cond.initialized "java/lang/Math").before args s = true) (hcode : (Cond.code Lib.Math.min.name Lib.Math.min.code 2 (some .int)).before args s = true)
    (hframes : 1 ≤ R.frames) (hlocals : (rest.map fun v => v.category).sum + 13 ≤ R.locals) (hc : cells ≤ R.cells) (hs : slots ≤ R.slots) {x y : Int32} (hdg : decode cc pc = .ok (.invokestatic index, 3))
    (kk : W p l e R s m args below meth c H locs cells slots Q (F0 m (pc + 3) ls (.int (imn x y) :: rest))) : W p l e R s m args below meth c H locs cells slots Q (F0 m pc ls (.int y :: .int x :: rest)) :=
  va_mmin hexec hb hml hown hlink hstat hini hcode hframes hlocals hc hs hdg kk
theorem w_mmax {cc : ByteArray} (hexec : p.tables.exec = Jvm.exec) (hb : c.code = cc) (hml : c.maxLocals = ls.size) {own : String} {index : Nat} (hown : s.vm.findClass own = some m.cls) (hlink : (Cond.methodLink own index Lib.Math.max.name).before args s = true) (hstat : (Cond.static Lib.Math.max.name).before args s = true) (hini : (Cond.initialized "java/lang/Math").before args s = true) (hcode : (Cond.code Lib.Math.max.name Lib.Math.max.code 2 (some .int)).before args s = true)
    (hframes : 1 ≤ R.frames) (hlocals : (rest.map fun v => v.category).sum + 13 ≤ R.locals) (hc : cells ≤ R.cells) (hs : slots ≤ R.slots) {x y : Int32} (hdg : decode cc pc = .ok (.invokestatic index, 3))
    (kk : W p l e R s m args below meth c H locs cells slots Q (F0 m (pc + 3) ls (.int (imx x y) :: rest))) : W p l e R s m args below meth c H locs cells slots Q (F0 m pc ls (.int y :: .int x :: rest)) :=
  va_mmax hexec hb hml hown hlink hstat hini hcode hframes hlocals hc hs hdg kk
end MM
theorem mw_fst {cI : ClassId} {M : Nat → Nat} {th th' : Int32} {nc nt nc' nt' : Nat} {f k g f' k' g' : Nat → Int32} : (MW cI M th' nc' nt' f' k' g').map (fun q => q.1) = (MW cI M th nc nt f k g).map (fun q => q.1) := rfl
theorem Jn_mw {cI : ClassId} {M : Nat → Nat} {th th' : Int32} {nc nt nc' nt' : Nat} {f k g f' k' g' : Nat → Int32} : Jn (MW cI M th nc nt f k g) (MW cI M th nc nt f k g) (MW cI M th' nc' nt' f' k' g') (MW cI M th' nc' nt' f' k' g') := Jn_all _ _ mw_fst
theorem Jn_mwh {cI : ClassId} {M : Nat → Nat} {th th' : Int32} {nc nt nc' nt' : Nat} {f k g f' k' g' : Nat → Int32} {r : va_W} : Jn (MW cI M th nc nt f k g ++ r) (MW cI M th nc nt f k g) (MW cI M th' nc' nt' f' k' g') (MW cI M th' nc' nt' f' k' g' ++ r) := Jn_head _ _ _ mw_fst
theorem D_mw {A : Nat → Prop} {cI : ClassId} {M : Nat → Nat} {th th' : Int32} {nc nt nc' nt' : Nat} {f k g f' k' g' : Nat → Int32} (h : va_D A (MW cI M th nc nt f k g)) : va_D A (MW cI M th' nc' nt' f' k' g') := D_fst mw_fst h
theorem imx_0 {x : Int32} {n : Int} (h : Bd0 x n) : imx 0 x = x := by
  by_cases q : x ≤ 0
  · rw [imx_neg q]
    rw [i_le, show (0 : Int32).toInt = 0 by decide] at q
    rw [i_eq, show (0 : Int32).toInt = 0 by decide]
    have := h.1
    omega
  · exact imx_pos q
