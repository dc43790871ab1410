/-! what the law's act may ask, and what comes of it, on both sides -/
theorem D_eq {A : Nat → Prop} {ws ws' : va_W} (e : ws = ws') (h : va_D A ws) : va_D A ws' := e ▸ h
theorem imn_c {x y : Int32} (h : x ≤ y) : imn x y = x := if_neg (Int32.not_lt.mpr h)
theorem imn_d {x y : Int32} (h : ¬ x ≤ y) : imn x y = y := if_pos (Int32.not_le.mp h)
theorem two_x (x : Int32) : 2 * x = x + x := by grind
theorem bn_f (c a s : Int32) : brine c a s = imn 30 (c + (a / 4 + imn s (a / 4 + a / 4))) := by
  rw [brine, two_x, Int32.add_assoc]
theorem bq_1 {c a s : Int32} (h : s ≤ a / 4 + a / 4) (h2 : c + (a / 4 + s) ≤ 30) : brine c a s = c + (a / 4 + s) := by
  rw [bn_f, imn_c h]
  exact imn_a h2
theorem bq_2 {c a s : Int32} (h : s ≤ a / 4 + a / 4) (h2 : ¬ c + (a / 4 + s) ≤ 30) : brine c a s = 30 := by
  rw [bn_f, imn_c h]
  exact imn_b h2
theorem bq_3 {c a s : Int32} (h : ¬ s ≤ a / 4 + a / 4) (h2 : c + (a / 4 + (a / 4 + a / 4)) ≤ 30) : brine c a s = c + (a / 4 + (a / 4 + a / 4)) := by
  rw [bn_f, imn_d h]
  exact imn_a h2
theorem bq_4 {c a s : Int32} (h : ¬ s ≤ a / 4 + a / 4) (h2 : ¬ c + (a / 4 + (a / 4 + a / 4)) ≤ 30) : brine c a s = 30 := by
  rw [bn_f, imn_d h]
  exact imn_b h2
theorem cIn_k {j l k : Nat} {lo hi : Int32} (e1 : lo = nI l) (e2 : hi = nI k) (h1 : l ≤ j) (h2 : j ≤ k) (h3 : k < 2 ^ 31) : cIn (nI j) lo hi := by
  subst e1; subst e2
  exact ⟨nI_le h1 (by omega), nI_le h2 (by omega)⟩
theorem inR_k {i n : Nat} (h : i < n) (hn : n < 2 ^ 31) : inR (nI i) n := ⟨nI_pos' (by omega), nI_lt h hn⟩
theorem k_bring {w m : Nat} (hw : w < 4) (h1 : 1 ≤ m) (h3 : m ≤ 300) : kBring (nI w) (nI m) = 0 := by
  rw [kBring, if_pos (cIn_k (l := 0) (k := 3) (lo := 0) (hi := 3) rfl rfl (by omega) (by omega) (by decide)), if_pos (cIn_k (l := 1) (k := 300) (lo := 1) (hi := 300) rfl rfl h1 h3 (by decide))]
theorem k_heat {j v : Nat} (hj : j < 7) (hv : v ≤ 40) : kHeat (nI j) (nI v) = 0 := by
  rw [kHeat, if_pos (cIn_k (l := 0) (k := 6) (lo := 0) (hi := 6) rfl rfl (by omega) (by omega) (by decide)), if_pos (cIn_k (l := 0) (k := 40) (lo := 0) (hi := 40) rfl rfl (by omega) hv (by decide))]
theorem k_churn {n : Nat} (h : n < 4) : kChurn n = 0 := if_pos (nI_lt h (by decide))
theorem k_tub {n : Nat} (h : n < 6) : kTub n = 0 := if_pos (nI_lt h (by decide))
section KK
variable {nc nt i t a s m : Nat} {f : Nat → Int32}
theorem k_pack0 (h4 : nc ≤ 4) (hi : i < nc) (ha : a ≤ 60) (hs : s ≤ 60) (k1 : ¬ f 1 < nI a) (k2 : ¬ f 2 < nI s) : kPack nc f (nI i) (nI a) (nI s) = 0 := by
  rw [kPack, if_pos (inR_k hi (by omega)), if_pos (cIn_k (l := 0) (k := 60) (lo := 0) (hi := 60) rfl rfl (by omega) ha (by decide)), if_pos (cIn_k (l := 0) (k := 60) (lo := 0) (hi := 60) rfl rfl (by omega) hs (by decide)), if_neg k1, if_neg k2]
theorem k_pack3 (h4 : nc ≤ 4) (hi : i < nc) (ha : a ≤ 60) (hs : s ≤ 60) (k : f 1 < nI a ∨ f 2 < nI s) : kPack nc f (nI i) (nI a) (nI s) = 3 := by
  rw [kPack, if_pos (inR_k hi (by omega)), if_pos (cIn_k (l := 0) (k := 60) (lo := 0) (hi := 60) rfl rfl (by omega) ha (by decide)), if_pos (cIn_k (l := 0) (k := 60) (lo := 0) (hi := 60) rfl rfl (by omega) hs (by decide))]
  by_cases q : f 1 < nI a
  · rw [if_pos q]
  · rw [if_neg q, if_pos (k.resolve_left q)]
theorem k_pour0 (h4 : nc ≤ 4) (hi : i < nc) (h1 : 1 ≤ m) (hm : m ≤ 20) (k1 : ¬ f 3 < nI m) (k2 : ¬ 20 < f (8 + 3 * i) + nI m) : kPour nc f (nI i) (nI m) = 0 := by
  rw [kPour, nI_clamp (by omega), if_pos (inR_k hi (by omega)), if_pos (cIn_k (l := 1) (k := 20) (lo := 1) (hi := 20) rfl rfl h1 hm (by decide)), if_neg k1, if_neg k2]
theorem k_pour3 (h4 : nc ≤ 4) (hi : i < nc) (h1 : 1 ≤ m) (hm : m ≤ 20) (k : f 3 < nI m ∨ 20 < f (8 + 3 * i) + nI m) : kPour nc f (nI i) (nI m) = 3 := by
  rw [kPour, nI_clamp (by omega), if_pos (inR_k hi (by omega)), if_pos (cIn_k (l := 1) (k := 20) (lo := 1) (hi := 20) rfl rfl h1 hm (by decide))]
  by_cases q : f 3 < nI m
  · rw [if_pos q]
  · rw [if_neg q, if_pos (k.resolve_left q)]
theorem k_scoop0 (h4 : nc ≤ 4) (h6 : nt ≤ 6) (hi : i < nc) (ht : t < nt) (k1 : ¬ f (8 + 3 * i) ≤ 0) (k2 : ¬ f (9 + 3 * i) < 50) : kScoop nc nt f (nI i) (nI t) = 0 := by
  rw [kScoop, nI_clamp (by omega), if_pos (inR_k hi (by omega)), if_pos (inR_k ht (by omega)), if_neg (fun q => k1 (by rw [q]; decide)), if_neg k2]
theorem k_scoop2 (h4 : nc ≤ 4) (h6 : nt ≤ 6) (hi : i < nc) (ht : t < nt) (hb : Bd0 (f (8 + 3 * i)) 20) (k : f (8 + 3 * i) ≤ 0 ∨ f (9 + 3 * i) < 50) : kScoop nc nt f (nI i) (nI t) = 2 := by
  rw [kScoop, nI_clamp (by omega), if_pos (inR_k hi (by omega)), if_pos (inR_k ht (by omega))]
  by_cases q : f (8 + 3 * i) = 0
  · rw [if_pos q]
  · rw [if_neg q, if_pos (k.resolve_left (fun z => q ?_))]
    rw [i_le, show (0 : Int32).toInt = 0 by decide] at z
    rw [i_eq, show (0 : Int32).toInt = 0 by decide]
    have := hb.1
    omega
theorem po_n {b : Int32} (hb : Bd0 b 20) (h1 : 1 ≤ m) (hm : m ≤ 20) : ¬ b + nI m = 0 := by
  obtain ⟨x, hx, rfl⟩ := of_bd (n := 20) (by decide) hb
  rw [nI_add]
  exact nI_ne0 (by omega) (by omega)
theorem po_f {F : Nat → Int32} (h : ¬ F (8 + 3 * i) + nI m = 0) : set3 (upd F 3 (F 3 - nI m)) (7 + 3 * i) (F (7 + 3 * i)) (F (8 + 3 * i) + nI m) (F (9 + 3 * i) * F (8 + 3 * i) / (F (8 + 3 * i) + nI m)) = pourF F i (nI m) := by
  rw [pourF, addF, if_neg h]
theorem po_v {F : Nat → Int32} (h : ¬ F (8 + 3 * i) + nI m = 0) : pourF F i (nI m) (9 + 3 * i) = F (9 + 3 * i) * F (8 + 3 * i) / (F (8 + 3 * i) + nI m) := by
  rw [← po_f h, s7_2]
theorem pk_f {F : Nat → Int32} {X : Int32} (h : brine (F (7 + 3 * i)) (nI a) (nI s) = X) : set3 (upd (upd F 1 (F 1 - nI a)) 2 (F 2 - nI s)) (7 + 3 * i) X (F (8 + 3 * i)) (F (9 + 3 * i)) = packF F i (nI a) (nI s) := by
  rw [packF, h]
theorem pk_v {F : Nat → Int32} {X : Int32} (h : brine (F (7 + 3 * i)) (nI a) (nI s) = X) : packF F i (nI a) (nI s) (7 + 3 * i) = X := by
  rw [← pk_f h, s7_0]
theorem sc_v {F : Nat → Int32} (hi : i < 4) : scoopF F i t (19 + 3 * t) = imn 60 (F (19 + 3 * t) + 2 * F (8 + 3 * i)) := by
  rw [scoopF, s3_o (by omega), s19_0]
theorem br_v {F : Nat → Int32} {w : Nat} {v x : Int32} (h : limF w = x) : bringF F w v = upd F (w + 1) (imn x (F (w + 1) + v)) := by
  rw [bringF, h]
theorem li_0 {w : Nat} (hw : w < 4) (h : ¬ nI w = 0) : limF w = 300 := if_neg (fun q => h (by rw [q]; rfl))
theorem li_1 {w : Nat} (hw : w < 4) (h : nI w = 0) : limF w = 900 := by
  have e : (0 : Int32) = nI 0 := rfl
  rw [e, nI_eq (by omega) (by decide)] at h
  exact if_pos h
end KK
theorem xe_3 {K : Nat} {a b c E : String} (hK : K = 3) (h : XE K a b c E) : E = c := by
  unfold XE at h
  subst hK
  rcases h with ⟨h, -⟩ | ⟨h, e⟩ | ⟨h, e⟩ <;> first | exact e | exact absurd h (by decide)
theorem xe_2 {K : Nat} {a b c E : String} (hK : K = 2) (h : XE K a b c E) : E = b := by
  unfold XE at h
  subst hK
  rcases h with ⟨h, -⟩ | ⟨h, e⟩ | ⟨h, e⟩ <;> first | exact e | exact absurd h (by decide)
theorem c_of {cv : Int32} {n : Nat} (hn : n < 2 ^ 31) (h : (n = 0 ∧ cv = -1) ∨ ∃ i, i < n ∧ cv = nI i) (h0 : 0 ≤ cv) : ∃ i, i < n ∧ cv = nI i := by
  rcases h with ⟨-, e⟩ | h
  · rw [e] at h0
    exact absurd h0 (by decide)
  · exact h
/-! a row more -/
theorem pm5 {α : Type} (Y : List α) (a0 a1 a2 a3 a4 : α) (R1 R2 : List α) : (Y ++ (a0 :: a1 :: a2 :: a3 :: a4 :: (R1 ++ R2))).Perm ((Y ++ (a0 :: a1 :: a2 :: a4 :: R2)) ++ (a3 :: R1)) := by
  classical
  refine List.perm_iff_count.mpr (fun z => ?_)
  simp only [List.count_append, List.count_cons]
  ac_rfl
theorem pm6 {α : Type} (Y : List α) (a0 a1 a2 a3 a4 : α) (R1 R2 : List α) : (Y ++ (a0 :: a1 :: a2 :: a3 :: a4 :: (R1 ++ R2))).Perm ((Y ++ (a0 :: a1 :: a2 :: a3 :: R1)) ++ (a4 :: R2)) := by
  classical
  refine List.perm_iff_count.mpr (fun z => ?_)
  simp only [List.count_append, List.count_cons]
  ac_rfl
/-- behind more: the new row of rows and the new row to the head, the old one too -/
theorem pm7 {α : Type} (Y : List α) (a0 a1 a2 a3 a4 q r : α) (R1 R2 : List α) : ((Y ++ (a0 :: a1 :: a2 :: a4 :: R2)) ++ ([a3, q, r] ++ R1)).Perm ([q, r, a3] ++ (Y ++ (a0 :: a1 :: a2 :: a4 :: (R1 ++ R2)))) := by
  classical
  refine List.perm_iff_count.mpr (fun z => ?_)
  simp only [List.count_append, List.count_cons, List.count_nil]
  ac_rfl
theorem pm8 {α : Type} (Y : List α) (a0 a1 a2 a3 a4 q r : α) (R1 R2 : List α) : ((Y ++ (a0 :: a1 :: a2 :: a3 :: R1)) ++ ([a4, q, r] ++ R2)).Perm ([q, r, a4] ++ (Y ++ (a0 :: a1 :: a2 :: a3 :: (R1 ++ R2)))) := by
  classical
  refine List.perm_iff_count.mpr (fun z => ?_)
  simp only [List.count_append, List.count_cons, List.count_nil]
  ac_rfl
theorem pm9 {α : Type} (Y : List α) (a0 a1 a2 a3 a4 q r : α) (R1 R2 : List α) : ([q, r, a3] ++ (Y ++ (a0 :: a1 :: a2 :: a4 :: (R1 ++ R2)))).Perm ((Y ++ (a0 :: a1 :: a2 :: q :: a4 :: ((R1 ++ [r]) ++ R2))) ++ [a3]) := by
  classical
  refine List.perm_iff_count.mpr (fun z => ?_)
  simp only [List.count_append, List.count_cons, List.count_nil]
  ac_rfl
theorem pm10 {α : Type} (Y : List α) (a0 a1 a2 a3 a4 q r : α) (R1 R2 : List α) : ([q, r, a4] ++ (Y ++ (a0 :: a1 :: a2 :: a3 :: (R1 ++ R2)))).Perm ((Y ++ (a0 :: a1 :: a2 :: a3 :: q :: (R1 ++ (R2 ++ [r])))) ++ [a4]) := by
  classical
  refine List.perm_iff_count.mpr (fun z => ?_)
  simp only [List.count_append, List.count_cons, List.count_nil]
  ac_rfl
section MO
variable {cI cL : ClassId} {S C T : Nat → Nat} {nc nt q r : Nat} {f g : Nat → Int32}
theorem rc_more (hz : f (7 + 3 * nc) = 0 ∧ f (8 + 3 * nc) = 0 ∧ f (9 + 3 * nc) = 0) : RC cI (fun i => if i < nc then C i else r) f (nc + 1) = RC cI C f nc ++ [(r, .inl (cI, 3, .inl (fun _ => 0)))] := by
  obtain ⟨h1, h2, h3⟩ := hz
  unfold RC
  rw [List.range_succ, List.map_append]
  congr 1
  · refine List.map_congr_left (fun i hi => ?_)
    simp only [if_pos (List.mem_range.mp hi)]
  · simp only [List.map_cons, List.map_nil]
    rw [if_neg (Nat.lt_irrefl _), h1, h2, h3, r3_z]
theorem rt_more (hz : f (19 + 3 * nt) = 0 ∧ f (20 + 3 * nt) = 0 ∧ f (21 + 3 * nt) = 0) : RT cI (fun i => if i < nt then T i else r) f (nt + 1) = RT cI T f nt ++ [(r, .inl (cI, 3, .inl (fun _ => 0)))] := by
  obtain ⟨h1, h2, h3⟩ := hz
  unfold RT
  rw [List.range_succ, List.map_append]
  congr 1
  · refine List.map_congr_left (fun i hi => ?_)
    simp only [if_pos (List.mem_range.mp hi)]
  · simp only [List.map_cons, List.map_nil]
    rw [if_neg (Nat.lt_irrefl _), h1, h2, h3, r3_z]
/-- the sim's cells but its churns' row of rows, its object's churns being q -/
abbrev SC (cI cL : ClassId) (S C T : Nat → Nat) (q nc nt : Nat) (f g : Nat → Int32) : va_W :=
  (S 0, .inr (4, [.int (f 0), .ref (S 1), .int (f 5), .int (f 6), .ref (S 2), .ref q, .ref (S 4)])) :: (S 1, .inl (cI, 4, .inl (stk (f 1) (f 2) (f 3) (f 4)))) :: (S 2, .inl (cI, 7, .inl g)) :: (S 4, .inl (cL, nt, .inr (.inr (.inr (.inr (fun i => some (T i))))))) :: (RC cI C f nc ++ RT cI T f nt)
abbrev SU (cI cL : ClassId) (S C T : Nat → Nat) (q nc nt : Nat) (f g : Nat → Int32) : va_W :=
  (S 0, .inr (4, [.int (f 0), .ref (S 1), .int (f 5), .int (f 6), .ref (S 2), .ref (S 3), .ref q])) :: (S 1, .inl (cI, 4, .inl (stk (f 1) (f 2) (f 3) (f 4)))) :: (S 2, .inl (cI, 7, .inl g)) :: (S 3, .inl (cL, nc, .inr (.inr (.inr (.inr (fun i => some (C i))))))) :: (RC cI C f nc ++ RT cI T f nt)
theorem mo_c (Y : va_W) (hz : f (7 + 3 * nc) = 0 ∧ f (8 + 3 * nc) = 0 ∧ f (9 + 3 * nc) = 0) : (([(q, .inl (cL, nc + 1, .inr (.inr (.inr (.inr (fun i => some (if i < nc then C i else r))))))), (r, .inl (cI, 3, .inl (fun _ => 0))), (S 3, .inl (cL, nc, .inr (.inr (.inr (.inr (fun i => some (C i)))))))] : va_W) ++ (Y ++ SC cI cL S C T q nc nt f g)).Perm
    ((Y ++ SM cI cL (fun k => if k = 3 then q else S k) (fun i => if i < nc then C i else r) T (nc + 1) nt f g) ++ [(S 3, .inl (cL, nc, .inr (.inr (.inr (.inr (fun i => some (C i)))))))]) := by
  unfold SM
  rw [rc_more hz]
  exact pm9 Y _ _ _ _ _ _ _ _ _
theorem mo_t (Y : va_W) (hz : f (19 + 3 * nt) = 0 ∧ f (20 + 3 * nt) = 0 ∧ f (21 + 3 * nt) = 0) : (([(q, .inl (cL, nt + 1, .inr (.inr (.inr (.inr (fun i => some (if i < nt then T i else r))))))), (r, .inl (cI, 3, .inl (fun _ => 0))), (S 4, .inl (cL, nt, .inr (.inr (.inr (.inr (fun i => some (T i)))))))] : va_W) ++ (Y ++ SU cI cL S C T q nc nt f g)).Perm
    ((Y ++ SM cI cL (fun k => if k = 4 then q else S k) C (fun i => if i < nt then T i else r) nc (nt + 1) f g) ++ [(S 4, .inl (cL, nt, .inr (.inr (.inr (.inr (fun i => some (T i)))))))]) := by
  unfold SM
  rw [rt_more hz]
  exact pm10 Y _ _ _ _ _ _ _ _ _
end MO
def actB (cI cC cT cL : ClassId) (x : Nat) (A : Nat → Nat) (b0 : Nat) (S : Nat → Nat) (h : Nat) : Option Value → va_W → Prop := fun o w => o = some (.int 1) ∧ ∃ (S' C' T' : Nat → Nat) (nc' nt' : Nat) (f' g' : Nat → Int32), S' 0 = S 0 ∧ GS2 nc' nt' f' g' h ∧ w = YW cI cC cT x A b0 nc' nt' f' g' ++ SM cI cL S' C' T' nc' nt' f' g'
def AE (p : Program) (l : Launch) (s : State) (m : MethodId) (meth : Method) (c : Code) (args : Array Value) (A0 : Nat → Prop) (D : va_G) (cI cC cT cL : ClassId) : Prop :=
  p.tables.exec = Jvm.exec ∧ c.code = cL_act ∧ c.maxLocals = 10 ∧ meth.sig.returnType = some .boolean ∧ s.vm.findClass RL = some m.cls ∧ (∀ w ∈ wsL_act, w.before args s = true) ∧ meth.locks = false ∧ va_K D vwCl (TY cI cC cT cL) s ∧ (∀ q : Nat, s.heap.size ≤ q → A0 q) ∧ ST A0 s ∧ c.exceptionTable.toList = tableOf [(508, 519, 522, 59), (658, 667, 670, 59), (814, 823, 826, 59)] ∧ l.stackTraces = false
