/-! a method with handlers that throws nothing itself; where the law's worlds lie -/
theorem M0_ofH {l : Launch} {y : MethodName} {ws ws' : List Cond} {rm : Room} {D : va_G} {tys : List (ClassId × FieldType)} {av : List Value} {wc : va_W} {o : Option Value} {w1 : va_W} {mc ms : Nat} {cc : ByteArray} {maxL : Nat} {ret : Option FieldType} {hh : List (Nat × Nat × Nat × Nat)} (hy : plainName y.cls = true) (hw : ws = .codeWith y cc maxL ret hh :: ws') (hlen : (lg_sl av).length ≤ maxL)
    (body : ∀ p e s m args below meth c A, Bd p s m meth c y cc maxL ret args ws D tys A wc → c.exceptionTable.toList = tableOf hh → ∀ ls, lv_has ls maxL (lv_args 0 av) → W p l e rm s m args below meth c s.heap [] 0 0 (Q0 below D o w1 A args s mc ms) (F0 m 0 ls [])) : M0 l y ws rm D tys av wc o w1 mc ms := by
  intro sz
  refine MetFree.of_bodyS (code := cc) (maxLocals := maxL) (ret := ret) hy ?_ ?_
  · intro args s m h hn
    obtain ⟨m9, meth, c, hn9, h1, h2, h3, h4, -, h5, h6, -⟩ := Cond.codeWith_spec (atoms_spec (ws := ws) h _ (by rw [hw]; exact List.mem_cons_self))
    cases hn.symm.trans hn9
    exact ⟨meth, c, h1, h2, h3, h4, h5, h6⟩
  · intro p e s m args below meth c s₁ B hml hv _
    have hh0 : s₁.heap = s.heap := by rw [B.state]; rfl
    have htab : c.exceptionTable.toList = tableOf hh := vx_table (x := y) B (atoms_spec (ws := ws) B.pre _ (by rw [hw]; exact List.mem_cons_self))
    obtain ⟨rfl, hsz, hP, hK, hD0, hST⟩ := hv
    subst hsz
    have h := body p e s m av.toArray below meth c (va_A wc s.heap.size) ⟨B.exec, B.bytes, hml, B.returns, findClass_of_methodNamed B.named, atoms_spec (ws := ws) B.pre, B.notSynchronized, hK, hP, hD0.self (sz := s.heap.size), fun q h => Or.inr h, hST, (name_of_methodNamed B.named B.method).1⟩ htab _ (lv_entry av hlen)
    have h2 := h s₁ hh0 (Stand.of_body B)
    obtain ⟨t, a1, o9, b1, b2, b3⟩ := h2
    rw [← lg_entry_eq] at a1
    exact ⟨t, o9, a1, b1, b2, b3.1, b3.2⟩
theorem yw_fst {cI cC cT : ClassId} {x b0 : Nat} {A : Nat → Nat} {nc nt nc' nt' : Nat} {f g f' g' : Nat → Int32} : (YW cI cC cT x A b0 nc' nt' f' g').map (fun q => q.1) = (YW cI cC cT x A b0 nc nt f g).map (fun q => q.1) := rfl
theorem cw_fst {cI cC cT : ClassId} {A : Nat → Nat} {nc nt nc' nt' : Nat} {f g f' g' : Nat → Int32} : (CW cI cC cT A nc' nt' f' g').map (fun q => q.1) = (CW cI cC cT A nc nt f g).map (fun q => q.1) := rfl
abbrev OB (cL : ClassId) (ob : Nat) (w : Nat → Int64) : va_W := [(ob, .inl (cL, 1, .inr (.inl w)))]
theorem Jn_ywh {cI cC cT : ClassId} {x b0 : Nat} {A : Nat → Nat} {nc nt nc' nt' : Nat} {f g f' g' : Nat → Int32} {r : va_W} : Jn (YW cI cC cT x A b0 nc nt f g ++ r) (YW cI cC cT x A b0 nc nt f g) (YW cI cC cT x A b0 nc' nt' f' g') (YW cI cC cT x A b0 nc' nt' f' g' ++ r) := Jn_head _ _ _ yw_fst
/-- a world in two pieces, a third between -/
theorem Jn_gap (a b a' b' r : va_W) (ha : a'.map (fun q => q.1) = a.map (fun q => q.1)) (hb : b'.map (fun q => q.1) = b.map (fun q => q.1)) : Jn ((a ++ r) ++ b) (a ++ b) (a' ++ b') ((a' ++ r) ++ b') := by
  refine ⟨fun q hq => ?_, fun A hD => ?_, fun A hD => ?_, fun A hD q hq => ?_⟩
  · simp only [List.mem_append] at hq ⊢
    rcases hq with h | h
    · exact Or.inl (Or.inl h)
    · exact Or.inr h
  · obtain ⟨h1, h2⟩ := dn_of hD
    simp only [List.map_append, List.nodup_append] at h1
    refine dn_to ?_ (fun q hq => ?_)
    · simp only [List.map_append, List.nodup_append]
      refine ⟨h1.1.1, h1.2.1, fun c hc d hd => ?_⟩
      exact h1.2.2 c (List.mem_append_left _ hc) d hd
    · simp only [List.mem_append] at hq
      rcases hq with h | h
      · exact h2 q (by simp [h])
      · exact h2 q (by simp [h])
  · refine D_fst ?_ hD
    simp only [List.map_append, ha, hb]
  · obtain ⟨h1, h2⟩ := dn_of hD
    simp only [List.map_append, List.nodup_append] at h1
    simp only [List.mem_append] at hq
    rcases hq with (h | h) | h
    · exact Or.inl (List.mem_append_left _ h)
    · refine Or.inr ⟨by simp [h], fun p hp he => ?_⟩
      rcases List.mem_append.mp hp with k | k
      · exact h1.1.2.2 p.1 (List.mem_map.mpr ⟨p, k, rfl⟩) q.1 (List.mem_map.mpr ⟨q, h, rfl⟩) he
      · exact h1.2.2 q.1 (List.mem_append_right _ (List.mem_map.mpr ⟨q, h, rfl⟩)) p.1 (List.mem_map.mpr ⟨p, k, rfl⟩) he.symm
    · exact Or.inl (List.mem_append_right _ h)
theorem Jn_fw {cI cC cT : ClassId} {x : Nat} {A B : Nat → Nat} {nc nt nc' nt' nc2 nt2 nc3 nt3 : Nat} {f g f' g' f2 g2 f3 g3 : Nat → Int32} {r : va_W} : Jn ((YW cI cC cT x A (B 0) nc nt f g ++ r) ++ CW cI cC cT B nc2 nt2 f2 g2) (YW cI cC cT x A (B 0) nc nt f g ++ CW cI cC cT B nc2 nt2 f2 g2) (YW cI cC cT x A (B 0) nc' nt' f' g' ++ CW cI cC cT B nc3 nt3 f3 g3) ((YW cI cC cT x A (B 0) nc' nt' f' g' ++ r) ++ CW cI cC cT B nc3 nt3 f3 g3) := Jn_gap _ _ _ _ _ yw_fst cw_fst
def LW (cI cC cT cL : ClassId) (x : Nat) (A B : Nat → Nat) (ob : Nat) (M : Nat → Nat) (nc nt : Nat) (f g : Nat → Int32) (w : Nat → Int64) (nc2 nt2 : Nat) (f2 g2 : Nat → Int32) (th : Int32) (k : Nat → Int32) : va_W := ((YW cI cC cT x A (B 0) nc nt f g ++ OB cL ob w) ++ CW cI cC cT B nc2 nt2 f2 g2) ++ MW cI M th nc nt f k g
def LV (cI cC cT cL : ClassId) (x : Nat) (A B : Nat → Nat) (ob : Nat) (M : Nat → Nat) (nc nt : Nat) (f g : Nat → Int32) (w : Nat → Int64) (nc2 nt2 : Nat) (f2 g2 : Nat → Int32) (th : Int32) (nc3 nt3 : Nat) (f3 k g3 : Nat → Int32) : va_W := ((YW cI cC cT x A (B 0) nc nt f g ++ OB cL ob w) ++ CW cI cC cT B nc2 nt2 f2 g2) ++ MW cI M th nc3 nt3 f3 k g3
theorem ap_1 (a b c d : va_W) : ((a ++ b) ++ c) ++ d = (a ++ b) ++ (c ++ d) := List.append_assoc (a ++ b) c d
theorem ap_2 (a b c d : va_W) : ((a ++ b) ++ c) ++ d = a ++ (b ++ (c ++ d)) := by rw [List.append_assoc, List.append_assoc]
section LJ
variable {cI cC cT cL : ClassId} {x ob : Nat} {A B M : Nat → Nat} {nc nt nc' nt' nc2 nt2 nc3 nt3 nc4 nt4 : Nat} {f g f' g' f2 g2 f3 g3 f4 g4 k k' : Nat → Int32} {w w' : Nat → Int64} {th th' : Int32}
theorem J_y : Jn (LV cI cC cT cL x A B ob M nc nt f g w nc2 nt2 f2 g2 th nc3 nt3 f3 k g3) (YW cI cC cT x A (B 0) nc nt f g) (YW cI cC cT x A (B 0) nc' nt' f' g') (LV cI cC cT cL x A B ob M nc' nt' f' g' w nc2 nt2 f2 g2 th nc3 nt3 f3 k g3) := by
  unfold LV
  rw [ap_2, ap_2]
  exact Jn_ywh
theorem J_o : Jn (LV cI cC cT cL x A B ob M nc nt f g w nc2 nt2 f2 g2 th nc3 nt3 f3 k g3) (YW cI cC cT x A (B 0) nc nt f g ++ OB cL ob w) (YW cI cC cT x A (B 0) nc' nt' f' g' ++ OB cL ob w') (LV cI cC cT cL x A B ob M nc' nt' f' g' w' nc2 nt2 f2 g2 th nc3 nt3 f3 k g3) := by
  unfold LV
  rw [ap_1, ap_1]
  refine Jn_head _ _ _ ?_
  rw [List.map_append, List.map_append, yw_fst (nc := nc) (nt := nt) (f := f) (g := g)]
  rfl
theorem J_f : Jn (LV cI cC cT cL x A B ob M nc nt f g w nc2 nt2 f2 g2 th nc3 nt3 f3 k g3) ((YW cI cC cT x A (B 0) nc nt f g ++ OB cL ob w) ++ CW cI cC cT B nc2 nt2 f2 g2) ((YW cI cC cT x A (B 0) nc' nt' f' g' ++ OB cL ob w') ++ CW cI cC cT B nc4 nt4 f4 g4) (LV cI cC cT cL x A B ob M nc' nt' f' g' w' nc4 nt4 f4 g4 th nc3 nt3 f3 k g3) := by
  refine Jn_head _ _ _ ?_
  rw [List.map_append, List.map_append, List.map_append, List.map_append, yw_fst (nc := nc) (nt := nt) (f := f) (g := g), cw_fst (nc := nc2) (nt := nt2) (f := f2) (g := g2)]
  rfl
theorem J_m : Jn (LV cI cC cT cL x A B ob M nc nt f g w nc2 nt2 f2 g2 th nc3 nt3 f3 k g3) (MW cI M th nc3 nt3 f3 k g3) (MW cI M th' nc4 nt4 f4 k' g4) (LV cI cC cT cL x A B ob M nc nt f g w nc2 nt2 f2 g2 th' nc4 nt4 f4 k' g4) := Jn_tail _ _ _ mw_fst
end LJ
