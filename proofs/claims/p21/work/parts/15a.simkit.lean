/-! the sim: its object, its stores, its rows; where a thing of it lies, and what a store makes of it -/
def r3 (a b c : Int32) (k : Nat) : Int32 := if k = 0 then a else if k = 1 then b else if k = 2 then c else 0
theorem r3_z : r3 0 0 0 = fun _ => 0 := by
  funext k
  unfold r3
  split
  · rfl
  · split
    · rfl
    · split <;> rfl
theorem r3_u0 {a b c v : Int32} : upd (r3 a b c) 0 v = r3 v b c := by
  funext k
  by_cases h : k = 0 <;> simp [upd, r3, h]
theorem r3_u1 {a b c v : Int32} : upd (r3 a b c) 1 v = r3 a v c := by
  funext k
  by_cases h : k = 1
  · subst h; simp [upd, r3]
  · simp [upd, r3, h]
theorem r3_u2 {a b c v : Int32} : upd (r3 a b c) 2 v = r3 a b v := by
  funext k
  by_cases h : k = 2
  · subst h; simp [upd, r3]
  · simp [upd, r3, h]
def RC (cI : ClassId) (C : Nat → Nat) (f : Nat → Int32) (n : Nat) : va_W := (List.range n).map (fun i => (C i, .inl (cI, 3, .inl (r3 (f (7 + 3 * i)) (f (8 + 3 * i)) (f (9 + 3 * i))))))
def RT (cI : ClassId) (C : Nat → Nat) (f : Nat → Int32) (n : Nat) : va_W := (List.range n).map (fun i => (C i, .inl (cI, 3, .inl (r3 (f (19 + 3 * i)) (f (20 + 3 * i)) (f (21 + 3 * i))))))
section RR
variable {cI : ClassId} {C C' : Nat → Nat} {f f' : Nat → Int32} {n i t k : Nat} {x y z v : Int32}
theorem rc_get (hi : i < n) : (RC cI C f n)[i]? = some (C i, .inl (cI, 3, .inl (r3 (f (7 + 3 * i)) (f (8 + 3 * i)) (f (9 + 3 * i))))) := by
  unfold RC
  rw [List.getElem?_map, List.getElem?_range hi]
  rfl
theorem rt_get (hi : i < n) : (RT cI C f n)[i]? = some (C i, .inl (cI, 3, .inl (r3 (f (19 + 3 * i)) (f (20 + 3 * i)) (f (21 + 3 * i))))) := by
  unfold RT
  rw [List.getElem?_map, List.getElem?_range hi]
  rfl
theorem rc_cg (h : ∀ j, j < n → C j = C' j ∧ f (7 + 3 * j) = f' (7 + 3 * j) ∧ f (8 + 3 * j) = f' (8 + 3 * j) ∧ f (9 + 3 * j) = f' (9 + 3 * j)) : RC cI C f n = RC cI C' f' n := by
  unfold RC
  refine List.map_congr_left (fun j hj => ?_)
  obtain ⟨h0, h1, h2, h3⟩ := h j (List.mem_range.mp hj)
  rw [h0, h1, h2, h3]
theorem rt_cg (h : ∀ j, j < n → C j = C' j ∧ f (19 + 3 * j) = f' (19 + 3 * j) ∧ f (20 + 3 * j) = f' (20 + 3 * j) ∧ f (21 + 3 * j) = f' (21 + 3 * j)) : RT cI C f n = RT cI C' f' n := by
  unfold RT
  refine List.map_congr_left (fun j hj => ?_)
  obtain ⟨h0, h1, h2, h3⟩ := h j (List.mem_range.mp hj)
  rw [h0, h1, h2, h3]
theorem rc_fst : (RC cI C f n).map (fun q => q.1) = (List.range n).map C := by
  unfold RC
  rw [List.map_map]
  rfl
theorem rt_fst : (RT cI C f n).map (fun q => q.1) = (List.range n).map C := by
  unfold RT
  rw [List.map_map]
  rfl
theorem rc_up (hk : k < 7) : RC cI C (upd f k x) n = RC cI C f n := rc_cg (fun j _ => ⟨rfl, up_o (by omega), up_o (by omega), up_o (by omega)⟩)
theorem rt_up (hk : k < 7) : RT cI C (upd f k x) n = RT cI C f n := rt_cg (fun j _ => ⟨rfl, up_o (by omega), up_o (by omega), up_o (by omega)⟩)
theorem rc_s19 (hn : n ≤ 4) : RC cI C (set3 f (19 + 3 * t) x y z) n = RC cI C f n := rc_cg (fun j hj => ⟨rfl, s3_o (by omega), s3_o (by omega), s3_o (by omega)⟩)
theorem rt_s7 (hi : i < 4) : RT cI C (set3 f (7 + 3 * i) x y z) n = RT cI C f n := rt_cg (fun j hj => ⟨rfl, s3_o (by omega), s3_o (by omega), s3_o (by omega)⟩)
theorem s7_0 : set3 f (7 + 3 * i) x y z (7 + 3 * i) = x := s3_0
theorem s7_1 : set3 f (7 + 3 * i) x y z (8 + 3 * i) = y := by rw [show 8 + 3 * i = 7 + 3 * i + 1 by omega, s3_1]
theorem s7_2 : set3 f (7 + 3 * i) x y z (9 + 3 * i) = z := by rw [show 9 + 3 * i = 7 + 3 * i + 2 by omega, s3_2]
theorem s19_0 : set3 f (19 + 3 * i) x y z (19 + 3 * i) = x := s3_0
theorem s19_1 : set3 f (19 + 3 * i) x y z (20 + 3 * i) = y := by rw [show 20 + 3 * i = 19 + 3 * i + 1 by omega, s3_1]
theorem s19_2 : set3 f (19 + 3 * i) x y z (21 + 3 * i) = z := by rw [show 21 + 3 * i = 19 + 3 * i + 2 by omega, s3_2]
theorem s7_id : set3 f (7 + 3 * i) (f (7 + 3 * i)) (f (8 + 3 * i)) (f (9 + 3 * i)) = f := by
  rw [show 8 + 3 * i = 7 + 3 * i + 1 by omega, show 9 + 3 * i = 7 + 3 * i + 2 by omega, s3_self]
theorem s19_id : set3 f (19 + 3 * i) (f (19 + 3 * i)) (f (20 + 3 * i)) (f (21 + 3 * i)) = f := by
  rw [show 20 + 3 * i = 19 + 3 * i + 1 by omega, show 21 + 3 * i = 19 + 3 * i + 2 by omega, s3_self]
theorem rc_set (hi : i < n) : (RC cI C f n).set i (C i, .inl (cI, 3, .inl (r3 x y z))) = RC cI C (set3 f (7 + 3 * i) x y z) n := by
  refine List.ext_getElem? (fun j => ?_)
  by_cases hj : j < n
  · rw [rc_get hj]
    by_cases h : i = j
    · subst h
      rw [List.getElem?_set_self (by unfold RC; simpa using hi), s7_0, s7_1, s7_2]
    · rw [List.getElem?_set_ne h, rc_get hj, s3_o (by omega), s3_o (by omega), s3_o (by omega)]
  · rw [List.getElem?_eq_none (by simp [RC]; omega), List.getElem?_eq_none (by simp [RC]; omega)]
theorem rt_set (hi : i < n) : (RT cI C f n).set i (C i, .inl (cI, 3, .inl (r3 x y z))) = RT cI C (set3 f (19 + 3 * i) x y z) n := by
  refine List.ext_getElem? (fun j => ?_)
  by_cases hj : j < n
  · rw [rt_get hj]
    by_cases h : i = j
    · subst h
      rw [List.getElem?_set_self (by unfold RT; simpa using hi), s19_0, s19_1, s19_2]
    · rw [List.getElem?_set_ne h, rt_get hj, s3_o (by omega), s3_o (by omega), s3_o (by omega)]
  · rw [List.getElem?_eq_none (by simp [RT]; omega), List.getElem?_eq_none (by simp [RT]; omega)]
end RR
/-! a world, a callee's part of it, and both afterwards; the addresses stay -/
def Jf (ws wc w1 ws' : va_W) : Prop := Jn ws wc w1 ws' ∧ ws'.map (fun q => q.1) = ws.map (fun q => q.1)
theorem Jf_l {a wc w1 a' : va_W} (R : va_W) (J : Jf a wc w1 a') : Jf (a ++ R) wc w1 (a' ++ R) := by
  obtain ⟨⟨j1, j2, j3, j4⟩, e⟩ := J
  have left : ∀ A, va_D A (a ++ R) → va_D A a := fun A hD => by
    obtain ⟨h1, h2⟩ := dn_of hD
    rw [List.map_append, List.nodup_append] at h1
    exact dn_to h1.1 (fun q hq => h2 q (List.mem_append_left _ hq))
  refine ⟨⟨fun q hq => List.mem_append_left _ (j1 q hq), fun A hD => j2 A (left A hD), fun A hD => D_fst (by rw [List.map_append, List.map_append, e]) hD, fun A hD q hq => ?_⟩, by rw [List.map_append, List.map_append, e]⟩
  rcases List.mem_append.mp hq with h | h
  · rcases j4 A (left A hD) q h with g | ⟨g1, g2⟩
    · exact Or.inl g
    · exact Or.inr ⟨List.mem_append_left _ g1, g2⟩
  · refine Or.inr ⟨List.mem_append_right _ h, fun p hp he => ?_⟩
    obtain ⟨h1, -⟩ := dn_of hD
    rw [List.map_append, List.nodup_append] at h1
    exact h1.2.2 p.1 (List.mem_map.mpr ⟨p, j1 p hp, rfl⟩) q.1 (List.mem_map.mpr ⟨q, h, rfl⟩) he
theorem Jf_r {a wc w1 a' : va_W} (L : va_W) (J : Jf a wc w1 a') : Jf (L ++ a) wc w1 (L ++ a') := by
  obtain ⟨⟨j1, j2, j3, j4⟩, e⟩ := J
  have right : ∀ A, va_D A (L ++ a) → va_D A a := fun A hD => by
    obtain ⟨h1, h2⟩ := dn_of hD
    rw [List.map_append, List.nodup_append] at h1
    exact dn_to h1.2.1 (fun q hq => h2 q (List.mem_append_right _ hq))
  refine ⟨⟨fun q hq => List.mem_append_right _ (j1 q hq), fun A hD => j2 A (right A hD), fun A hD => D_fst (by rw [List.map_append, List.map_append, e]) hD, fun A hD q hq => ?_⟩, by rw [List.map_append, List.map_append, e]⟩
  rcases List.mem_append.mp hq with h | h
  · refine Or.inr ⟨List.mem_append_left _ h, fun p hp he => ?_⟩
    obtain ⟨h1, -⟩ := dn_of hD
    rw [List.map_append, List.nodup_append] at h1
    exact h1.2.2 q.1 (List.mem_map.mpr ⟨q, h, rfl⟩) p.1 (List.mem_map.mpr ⟨p, j1 p hp, rfl⟩) he.symm
  · rcases j4 A (right A hD) q h with g | ⟨g1, g2⟩
    · exact Or.inl g
    · exact Or.inr ⟨List.mem_append_right _ g1, g2⟩
theorem Jf_set {ws ws' : va_W} (k : Nat) {a : Nat} {e e' : va_E} (h : ws[k]? = some (a, e)) (hw : ws.set k (a, e') = ws') : Jf ws [(a, e)] [(a, e')] ws' := by
  subst hw
  refine ⟨Jn_set k a e e' h, ?_⟩
  refine List.ext_getElem? (fun j => ?_)
  rw [List.getElem?_map, List.getElem?_map]
  by_cases hj : k = j
  · subst hj
    rw [List.getElem?_set_self (List.getElem?_eq_some_iff.mp h).1, h]
    rfl
  · rw [List.getElem?_set_ne hj]
theorem Jf_all (ws w1 : va_W) (h : w1.map (fun q => q.1) = ws.map (fun q => q.1)) : Jf ws ws w1 w1 := ⟨Jn_all ws w1 h, h⟩
theorem Jf_hd (wc w1 R : va_W) (h : w1.map (fun q => q.1) = wc.map (fun q => q.1)) : Jf (wc ++ R) wc w1 (w1 ++ R) := Jf_l R (Jf_all wc w1 h)
/-! the sim -/
def SB (cI cL : ClassId) (S C T : Nat → Nat) (nc nt : Nat) (f g : Nat → Int32) : va_W :=
  [(S 0, .inr (4, [.int (f 0), .ref (S 1), .int (f 5), .int (f 6), .ref (S 2), .ref (S 3), .ref (S 4)])), (S 1, .inl (cI, 4, .inl (stk (f 1) (f 2) (f 3) (f 4)))), (S 2, .inl (cI, 7, .inl g)),
   (S 3, .inl (cL, nc, .inr (.inr (.inr (.inr (fun i => some (C i))))))), (S 4, .inl (cL, nt, .inr (.inr (.inr (.inr (fun i => some (T i)))))))]
def SM (cI cL : ClassId) (S C T : Nat → Nat) (nc nt : Nat) (f g : Nat → Int32) : va_W := SB cI cL S C T nc nt f g ++ (RC cI C f nc ++ RT cI T f nt)
section SS
variable {cI cL : ClassId} {S C T : Nat → Nat} {nc nt i t k : Nat} {f f' g g' : Nat → Int32} {x y z v : Int32} {q : Nat × va_E}
theorem sm_b (k : Nat) (h : (SB cI cL S C T nc nt f g)[k]? = some q) : q ∈ SM cI cL S C T nc nt f g := List.mem_append_left _ (List.mem_of_getElem? h)
theorem sm_c (hi : i < nc) : (C i, .inl (cI, 3, .inl (r3 (f (7 + 3 * i)) (f (8 + 3 * i)) (f (9 + 3 * i))))) ∈ SM cI cL S C T nc nt f g := List.mem_append_right _ (List.mem_append_left _ (List.mem_of_getElem? (rc_get hi)))
theorem sm_t (hi : i < nt) : (T i, .inl (cI, 3, .inl (r3 (f (19 + 3 * i)) (f (20 + 3 * i)) (f (21 + 3 * i))))) ∈ SM cI cL S C T nc nt f g := List.mem_append_right _ (List.mem_append_right _ (List.mem_of_getElem? (rt_get hi)))
theorem sm_cs (hi : i < nc) : (C i, .inl (cI, 3, .inl (r3 x y z))) ∈ SM cI cL S C T nc nt (set3 f (7 + 3 * i) x y z) g := by
  have h := sm_c (cI := cI) (cL := cL) (S := S) (C := C) (T := T) (nt := nt) (f := set3 f (7 + 3 * i) x y z) (g := g) hi
  rw [s7_0, s7_1, s7_2] at h
  exact h
theorem sm_ts (hi : i < nt) : (T i, .inl (cI, 3, .inl (r3 x y z))) ∈ SM cI cL S C T nc nt (set3 f (19 + 3 * i) x y z) g := by
  have h := sm_t (cI := cI) (cL := cL) (S := S) (C := C) (T := T) (nc := nc) (f := set3 f (19 + 3 * i) x y z) (g := g) hi
  rw [s19_0, s19_1, s19_2] at h
  exact h
theorem sm_fst : (SM cI cL S C T nc nt f' g').map (fun q => q.1) = (SM cI cL S C T nc nt f g).map (fun q => q.1) := by
  unfold SM
  rw [List.map_append, List.map_append, List.map_append, List.map_append, rc_fst, rc_fst, rt_fst, rt_fst]
  rfl
theorem J_sb (k : Nat) {a : Nat} {e e' : va_E} (h : (SB cI cL S C T nc nt f g)[k]? = some (a, e)) (hw : (SB cI cL S C T nc nt f g).set k (a, e') = SB cI cL S C T nc nt f' g') (hc : RC cI C f' nc = RC cI C f nc) (ht : RT cI T f' nt = RT cI T f nt) : Jf (SM cI cL S C T nc nt f g) [(a, e)] [(a, e')] (SM cI cL S C T nc nt f' g') := by
  unfold SM
  rw [hc, ht]
  exact Jf_l _ (Jf_set k h hw)
theorem J_hour (v : Int32) : Jf (SM cI cL S C T nc nt f g) [(S 0, .inr (4, [.int (f 0), .ref (S 1), .int (f 5), .int (f 6), .ref (S 2), .ref (S 3), .ref (S 4)]))] [(S 0, .inr (4, [.int v, .ref (S 1), .int (f 5), .int (f 6), .ref (S 2), .ref (S 3), .ref (S 4)]))] (SM cI cL S C T nc nt (upd f 0 v) g) := J_sb 0 rfl rfl (rc_up (by decide)) (rt_up (by decide))
theorem J_coins (v : Int32) : Jf (SM cI cL S C T nc nt f g) [(S 0, .inr (4, [.int (f 0), .ref (S 1), .int (f 5), .int (f 6), .ref (S 2), .ref (S 3), .ref (S 4)]))] [(S 0, .inr (4, [.int (f 0), .ref (S 1), .int v, .int (f 6), .ref (S 2), .ref (S 3), .ref (S 4)]))] (SM cI cL S C T nc nt (upd f 5 v) g) := J_sb 0 rfl rfl (rc_up (by decide)) (rt_up (by decide))
theorem J_away (v : Int32) : Jf (SM cI cL S C T nc nt f g) [(S 0, .inr (4, [.int (f 0), .ref (S 1), .int (f 5), .int (f 6), .ref (S 2), .ref (S 3), .ref (S 4)]))] [(S 0, .inr (4, [.int (f 0), .ref (S 1), .int (f 5), .int v, .ref (S 2), .ref (S 3), .ref (S 4)]))] (SM cI cL S C T nc nt (upd f 6 v) g) := J_sb 0 rfl rfl (rc_up (by decide)) (rt_up (by decide))
theorem J_store (j : Nat) (hj : j < 4) (v : Int32) : Jf (SM cI cL S C T nc nt f g) [(S 1, .inl (cI, 4, .inl (stk (f 1) (f 2) (f 3) (f 4))))] [(S 1, .inl (cI, 4, .inl (upd (stk (f 1) (f 2) (f 3) (f 4)) j v)))] (SM cI cL S C T nc nt (upd f (j + 1) v) g) := by
  refine J_sb 1 rfl ?_ (rc_up (by omega)) (rt_up (by omega))
  rw [stk_upd j hj v f rfl rfl rfl rfl]
  match j, hj with
  | 0, _ => rfl
  | 1, _ => rfl
  | 2, _ => rfl
  | 3, _ => rfl
theorem J_heat (j : Nat) (v : Int32) : Jf (SM cI cL S C T nc nt f g) [(S 2, .inl (cI, 7, .inl g))] [(S 2, .inl (cI, 7, .inl (upd g j v)))] (SM cI cL S C T nc nt f (upd g j v)) := J_sb 2 rfl rfl rfl rfl
theorem sb_s7 (hi : i < 4) : SB cI cL S C T nc nt (set3 f (7 + 3 * i) x y z) g = SB cI cL S C T nc nt f g := by
  unfold SB
  rw [s3_o (by omega), s3_o (by omega), s3_o (by omega), s3_o (by omega), s3_o (by omega), s3_o (by omega), s3_o (by omega)]
theorem sb_s19 : SB cI cL S C T nc nt (set3 f (19 + 3 * i) x y z) g = SB cI cL S C T nc nt f g := by
  unfold SB
  rw [s3_o (by omega), s3_o (by omega), s3_o (by omega), s3_o (by omega), s3_o (by omega), s3_o (by omega), s3_o (by omega)]
theorem s_s3 {f : Nat → Int32} {k : Nat} {x y z a b c : Int32} : set3 (set3 f k x y z) k a b c = set3 f k a b c := by
  funext j
  unfold set3
  by_cases h0 : j = k
  · simp [h0]
  · by_cases h1 : j = k + 1
    · simp [h0, h1]
    · by_cases h2 : j = k + 2
      · simp [h0, h1, h2]
      · simp [h0, h1, h2]
theorem J_c (hn : nc ≤ 4) (hi : i < nc) (x y z : Int32) : Jf (SM cI cL S C T nc nt f g) [(C i, .inl (cI, 3, .inl (r3 (f (7 + 3 * i)) (f (8 + 3 * i)) (f (9 + 3 * i)))))] [(C i, .inl (cI, 3, .inl (r3 x y z)))] (SM cI cL S C T nc nt (set3 f (7 + 3 * i) x y z) g) := by
  unfold SM
  rw [sb_s7 (by omega), rt_s7 (by omega)]
  exact Jf_r _ (Jf_l _ (Jf_set i (rc_get hi) (rc_set hi)))
theorem J_t (hn : nc ≤ 4) (hi : i < nt) (x y z : Int32) : Jf (SM cI cL S C T nc nt f g) [(T i, .inl (cI, 3, .inl (r3 (f (19 + 3 * i)) (f (20 + 3 * i)) (f (21 + 3 * i)))))] [(T i, .inl (cI, 3, .inl (r3 x y z)))] (SM cI cL S C T nc nt (set3 f (19 + 3 * i) x y z) g) := by
  unfold SM
  rw [sb_s19, rc_s19 hn]
  exact Jf_r _ (Jf_r _ (Jf_set i (rt_get hi) (rt_set hi)))
theorem J_cs (hn : nc ≤ 4) (hi : i < nc) (x' y' z' : Int32) : Jf (SM cI cL S C T nc nt (set3 f (7 + 3 * i) x y z) g) [(C i, .inl (cI, 3, .inl (r3 x y z)))] [(C i, .inl (cI, 3, .inl (r3 x' y' z')))] (SM cI cL S C T nc nt (set3 f (7 + 3 * i) x' y' z') g) := by
  have h := J_c (cI := cI) (cL := cL) (S := S) (C := C) (T := T) (nt := nt) (f := set3 f (7 + 3 * i) x y z) (g := g) hn hi x' y' z'
  rw [s7_0, s7_1, s7_2, s_s3] at h
  exact h
theorem J_ts (hn : nc ≤ 4) (hi : i < nt) (x' y' z' : Int32) : Jf (SM cI cL S C T nc nt (set3 f (19 + 3 * i) x y z) g) [(T i, .inl (cI, 3, .inl (r3 x y z)))] [(T i, .inl (cI, 3, .inl (r3 x' y' z')))] (SM cI cL S C T nc nt (set3 f (19 + 3 * i) x' y' z') g) := by
  have h := J_t (cI := cI) (cL := cL) (S := S) (C := C) (T := T) (nt := nt) (f := set3 f (19 + 3 * i) x y z) (g := g) hn hi x' y' z'
  rw [s19_0, s19_1, s19_2, s_s3] at h
  exact h
theorem J_c0 (hn : nc ≤ 4) (hi : i < nc) (v : Int32) : Jf (SM cI cL S C T nc nt (set3 f (7 + 3 * i) x y z) g) [(C i, .inl (cI, 3, .inl (r3 x y z)))] [(C i, .inl (cI, 3, .inl (upd (r3 x y z) 0 v)))] (SM cI cL S C T nc nt (set3 f (7 + 3 * i) v y z) g) := by
  rw [r3_u0]
  exact J_cs hn hi v y z
theorem J_c1 (hn : nc ≤ 4) (hi : i < nc) (v : Int32) : Jf (SM cI cL S C T nc nt (set3 f (7 + 3 * i) x y z) g) [(C i, .inl (cI, 3, .inl (r3 x y z)))] [(C i, .inl (cI, 3, .inl (upd (r3 x y z) 1 v)))] (SM cI cL S C T nc nt (set3 f (7 + 3 * i) x v z) g) := by
  rw [r3_u1]
  exact J_cs hn hi x v z
theorem J_c2 (hn : nc ≤ 4) (hi : i < nc) (v : Int32) : Jf (SM cI cL S C T nc nt (set3 f (7 + 3 * i) x y z) g) [(C i, .inl (cI, 3, .inl (r3 x y z)))] [(C i, .inl (cI, 3, .inl (upd (r3 x y z) 2 v)))] (SM cI cL S C T nc nt (set3 f (7 + 3 * i) x y v) g) := by
  rw [r3_u2]
  exact J_cs hn hi x y v
theorem J_t0 (hn : nc ≤ 4) (hi : i < nt) (v : Int32) : Jf (SM cI cL S C T nc nt (set3 f (19 + 3 * i) x y z) g) [(T i, .inl (cI, 3, .inl (r3 x y z)))] [(T i, .inl (cI, 3, .inl (upd (r3 x y z) 0 v)))] (SM cI cL S C T nc nt (set3 f (19 + 3 * i) v y z) g) := by
  rw [r3_u0]
  exact J_ts hn hi v y z
theorem J_t1 (hn : nc ≤ 4) (hi : i < nt) (v : Int32) : Jf (SM cI cL S C T nc nt (set3 f (19 + 3 * i) x y z) g) [(T i, .inl (cI, 3, .inl (r3 x y z)))] [(T i, .inl (cI, 3, .inl (upd (r3 x y z) 1 v)))] (SM cI cL S C T nc nt (set3 f (19 + 3 * i) x v z) g) := by
  rw [r3_u1]
  exact J_ts hn hi x v z
theorem J_t2 (hn : nc ≤ 4) (hi : i < nt) (v : Int32) : Jf (SM cI cL S C T nc nt (set3 f (19 + 3 * i) x y z) g) [(T i, .inl (cI, 3, .inl (r3 x y z)))] [(T i, .inl (cI, 3, .inl (upd (r3 x y z) 2 v)))] (SM cI cL S C T nc nt (set3 f (19 + 3 * i) x y v) g) := by
  rw [r3_u2]
  exact J_ts hn hi x y v
theorem J_cw0 (hn : nc ≤ 4) (hi : i < nc) (v : Int32) (hy : f (8 + 3 * i) = y) (hz : f (9 + 3 * i) = z) : Jf (SM cI cL S C T nc nt f g) [(C i, .inl (cI, 3, .inl (r3 (f (7 + 3 * i)) (f (8 + 3 * i)) (f (9 + 3 * i)))))] [(C i, .inl (cI, 3, .inl (upd (r3 (f (7 + 3 * i)) (f (8 + 3 * i)) (f (9 + 3 * i))) 0 v)))] (SM cI cL S C T nc nt (set3 f (7 + 3 * i) v y z) g) := by
  subst hy; subst hz
  rw [r3_u0]
  exact J_c hn hi _ _ _
theorem J_cw1 (hn : nc ≤ 4) (hi : i < nc) (v : Int32) (hy : f (7 + 3 * i) = x) (hz : f (9 + 3 * i) = z) : Jf (SM cI cL S C T nc nt f g) [(C i, .inl (cI, 3, .inl (r3 (f (7 + 3 * i)) (f (8 + 3 * i)) (f (9 + 3 * i)))))] [(C i, .inl (cI, 3, .inl (upd (r3 (f (7 + 3 * i)) (f (8 + 3 * i)) (f (9 + 3 * i))) 1 v)))] (SM cI cL S C T nc nt (set3 f (7 + 3 * i) x v z) g) := by
  subst hy; subst hz
  rw [r3_u1]
  exact J_c hn hi _ _ _
theorem J_cw2 (hn : nc ≤ 4) (hi : i < nc) (v : Int32) (hy : f (7 + 3 * i) = x) (hz : f (8 + 3 * i) = y) : Jf (SM cI cL S C T nc nt f g) [(C i, .inl (cI, 3, .inl (r3 (f (7 + 3 * i)) (f (8 + 3 * i)) (f (9 + 3 * i)))))] [(C i, .inl (cI, 3, .inl (upd (r3 (f (7 + 3 * i)) (f (8 + 3 * i)) (f (9 + 3 * i))) 2 v)))] (SM cI cL S C T nc nt (set3 f (7 + 3 * i) x y v) g) := by
  subst hy; subst hz
  rw [r3_u2]
  exact J_c hn hi _ _ _
theorem J_tw0 (hn : nc ≤ 4) (hi : i < nt) (v : Int32) (hy : f (20 + 3 * i) = y) (hz : f (21 + 3 * i) = z) : Jf (SM cI cL S C T nc nt f g) [(T i, .inl (cI, 3, .inl (r3 (f (19 + 3 * i)) (f (20 + 3 * i)) (f (21 + 3 * i)))))] [(T i, .inl (cI, 3, .inl (upd (r3 (f (19 + 3 * i)) (f (20 + 3 * i)) (f (21 + 3 * i))) 0 v)))] (SM cI cL S C T nc nt (set3 f (19 + 3 * i) v y z) g) := by
  subst hy; subst hz
  rw [r3_u0]
  exact J_t hn hi _ _ _
theorem J_tw1 (hn : nc ≤ 4) (hi : i < nt) (v : Int32) (hy : f (19 + 3 * i) = x) (hz : f (21 + 3 * i) = z) : Jf (SM cI cL S C T nc nt f g) [(T i, .inl (cI, 3, .inl (r3 (f (19 + 3 * i)) (f (20 + 3 * i)) (f (21 + 3 * i)))))] [(T i, .inl (cI, 3, .inl (upd (r3 (f (19 + 3 * i)) (f (20 + 3 * i)) (f (21 + 3 * i))) 1 v)))] (SM cI cL S C T nc nt (set3 f (19 + 3 * i) x v z) g) := by
  subst hy; subst hz
  rw [r3_u1]
  exact J_t hn hi _ _ _
theorem J_tw2 (hn : nc ≤ 4) (hi : i < nt) (v : Int32) (hy : f (19 + 3 * i) = x) (hz : f (20 + 3 * i) = y) : Jf (SM cI cL S C T nc nt f g) [(T i, .inl (cI, 3, .inl (r3 (f (19 + 3 * i)) (f (20 + 3 * i)) (f (21 + 3 * i)))))] [(T i, .inl (cI, 3, .inl (upd (r3 (f (19 + 3 * i)) (f (20 + 3 * i)) (f (21 + 3 * i))) 2 v)))] (SM cI cL S C T nc nt (set3 f (19 + 3 * i) x y v) g) := by
  subst hy; subst hz
  rw [r3_u2]
  exact J_t hn hi _ _ _
end SS
theorem r3_pick {a b c : Int32} {w : Nat} (hw : w < 3) : r3 a b c w = pick3 w a b c := by
  match w, hw with
  | 0, _ => rfl
  | 1, _ => rfl
  | 2, _ => rfl
