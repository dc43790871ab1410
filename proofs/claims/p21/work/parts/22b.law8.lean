def LE (p : Program) (l : Launch) (s : State) (m : MethodId) (args : Array Value) (c : Code) (A0 : Nat → Prop) (b L : Nat) (xs : Nat → Int32) (D : va_G) (cI cC cT cL : ClassId) : Prop :=
  p.tables.exec = Jvm.exec ∧ c.code = code ∧ c.maxLocals = 30 ∧ s.vm.findClass RL = some m.cls ∧ (∀ w ∈ wsL_law, w.before args s = true) ∧ va_K D vwCl (TY cI cC cT cL) s ∧ ST A0 s ∧ va_X b L xs s s.heap ∧ b < s.heap.size ∧ ¬ A0 b ∧ (∀ q : Nat, s.heap.size ≤ q → A0 q) ∧ l.stackTraces = false ∧ va_Nw (.methodLinkNest RL 70 yX4_init RL) s
def LK (p : Program) (l : Launch) (e : Env) (s : State) (m : MethodId) (args : Array Value) (below : List Frame) (meth : Method) (c : Code) (Q : State → Prop) (A0 : Nat → Prop) (b : Nat) (D : va_G) (cI cC cT cL : ClassId) (x mo wh : Nat) (A B : Nat → Nat) (time cE sE : Nat) : Prop :=
  ∀ (S C T : Nat → Nat) (nc nt : Nat) (f g : Nat → Int32) (h : Nat) (nc2 nt2 : Nat) (f2 g2 : Nat → Int32) (H : Heap) (locs : List Loc) (ls : Array Slot), GS2 nc nt f g h → h ≤ 60 + time →
    va_P D vwCl (([(mo, .inl (cI, 6, .inl mostA)), (wh, .inl (cI, 5, .inl (fun i => nI (wN i))))] : va_W) ++ ((YW cI cC cT x A (B 0) nc nt f g ++ CW cI cC cT B nc2 nt2 f2 g2) ++ (SM cI cL S C T nc nt f g))) H → va_D A0 (([(mo, .inl (cI, 6, .inl mostA)), (wh, .inl (cI, 5, .inl (fun i => nI (wN i))))] : va_W) ++ ((YW cI cC cT x A (B 0) nc nt f g ++ CW cI cC cT B nc2 nt2 f2 g2) ++ (SM cI cL S C T nc nt f g))) → va_S A0 s.heap H locs → lv_has ls 30 [(5, .int (nI time)), (4, .ref wh), (3, .ref mo), (2, .ref (S 0)), (1, .ref x), (0, .ref b)] → W p l e room_1 s m args below meth c H locs cE sE Q (F0 m 89 ls [])

set_option maxHeartbeats 4000000 in
set_option maxRecDepth 100000 in
theorem law_8 {p : Program} {l : Launch} {e : Env} {s : State} {m : MethodId} {args : Array Value} {below : List Frame} {meth : Method} {c : Code} {Q : State → Prop} {A0 : Nat → Prop} {b L : Nat} {xs : Nat → Int32} {D : va_G} {cI cC cT cL : ClassId} {x mo wh : Nat} {A B : Nat → Nat} {time cE sE cells slots : Nat} {S C T : Nat → Nat} {nc nt h : Nat} {f g : Nat → Int32} {nc2 nt2 : Nat} {f2 g2 : Nat → Int32} {H : Heap} {locs : List Loc} {ls : Array Slot} {f1 : Nat → Int32} {qc qt qh qn qd : Nat} {r r2 : Nat → Nat} {th dn : Nat → Int32} {sv : Int32} (EL : LE p l s m args c A0 b L xs D cI cC cT cL) (ht : time < 60) (hh : h ≤ 60 + time) (G : GS2 nc nt f g h) (G1 : GS2 nc nt f1 g (h + 1)) (e1 : f1 = hourF nc nt g f) (hcE : cE ≤ 600130) (hsE : sE ≤ 7301080) (hcl : cells + 49 ≤ cE) (hsl : slots + 294 ≤ sE) (K : LK p l e s m args below meth c Q A0 b D cI cC cT cL x mo wh A B (time + 1) cE sE) (hsv : cntF nt f1 g 8 - cntF nt f g 8 = sv) (hP : va_P D vwCl (([(mo, .inl (cI, 6, .inl mostA)), (wh, .inl (cI, 5, .inl (fun i => nI (wN i)))), (qc, .inl (cL, nc, .inr (.inr (.inr (.inr (fun i => some (r i))))))), (qt, .inl (cL, nt, .inr (.inr (.inr (.inr (fun i => some (r2 i))))))), (qh, .inl (cI, 10, .inl (cntF nt f g))), (qn, .inl (cI, 10, .inl th)), (qd, .inl (cI, nc, .inl dn))] : va_W) ++ (RT cI r2 f nt ++ (RC cI r f nc ++ ((YW cI cC cT x A (B 0) nc nt f1 g ++ CW cI cC cT B nc2 nt2 f2 g2) ++ (SM cI cL S C T nc nt f1 g))))) H) (hD : va_D A0 (([(mo, .inl (cI, 6, .inl mostA)), (wh, .inl (cI, 5, .inl (fun i => nI (wN i)))), (qc, .inl (cL, nc, .inr (.inr (.inr (.inr (fun i => some (r i))))))), (qt, .inl (cL, nt, .inr (.inr (.inr (.inr (fun i => some (r2 i))))))), (qh, .inl (cI, 10, .inl (cntF nt f g))), (qn, .inl (cI, 10, .inl th)), (qd, .inl (cI, nc, .inl dn))] : va_W) ++ (RT cI r2 f nt ++ (RC cI r f nc ++ ((YW cI cC cT x A (B 0) nc nt f1 g ++ CW cI cC cT B nc2 nt2 f2 g2) ++ (SM cI cL S C T nc nt f1 g)))))) (hS : va_S A0 s.heap H locs) (hl : lv_has ls 30 [(19, .int sv), (11, .ref qh), (10, .ref qt), (8, .int (nI nt)), (5, .int (nI time)), (4, .ref wh), (3, .ref mo), (2, .ref (S 0)), (1, .ref x), (0, .ref b)]) : W p l e room_1 s m args below meth c H locs cells slots Q (F0 m 1068 ls []) := by
  obtain ⟨hx, hb, hml, hown, hts, hK, hST, hX, hbl, hbA, hA, hl0, hN⟩ := id EL
  have hAA : va_AOA .int s := hST.2.2.2.2.2.2.2.2.2.1
  obtain ⟨⟨hnc, hnt, hI, hg, h0⟩, hz, hxc, hxt⟩ := id G
  obtain ⟨⟨-, -, hI1, hg1, h01⟩, hz1, hxc1, hxt1⟩ := id G1
  refine lv_iconst (v := 0) hx hb dL_law_1068 (by decide) ?_
  refine lv_istore (lv' := [(23, .int 0), (19, .int sv), (11, .ref qh), (10, .ref qt), (8, .int (nI nt)), (5, .int (nI time)), (4, .ref wh), (3, .ref mo), (2, .ref (S 0)), (1, .ref x), (0, .ref b)]) hx hb dL_law_1069 hl (by decide) rfl (fun ls hl => ?_)
  refine lv_iconst (v := 0) hx hb dL_law_1071 (by decide) ?_
  refine lv_istore (lv' := [(24, .int 0), (23, .int 0), (19, .int sv), (11, .ref qh), (10, .ref qt), (8, .int (nI nt)), (5, .int (nI time)), (4, .ref wh), (3, .ref mo), (2, .ref (S 0)), (1, .ref x), (0, .ref b)]) hx hb dL_law_1072 hl (by decide) rfl (fun ls hl => ?_)
  have lp0 : ∀ (n j : Nat), j + n = nt → ∀ (H : Heap) (locs : List Loc), va_P D vwCl (([(mo, .inl (cI, 6, .inl mostA)), (wh, .inl (cI, 5, .inl (fun i => nI (wN i)))), (qc, .inl (cL, nc, .inr (.inr (.inr (.inr (fun i => some (r i))))))), (qt, .inl (cL, nt, .inr (.inr (.inr (.inr (fun i => some (r2 i))))))), (qh, .inl (cI, 10, .inl (cntF nt f g))), (qn, .inl (cI, 10, .inl th)), (qd, .inl (cI, nc, .inl dn))] : va_W) ++ (RT cI r2 f nt ++ (RC cI r f nc ++ ((YW cI cC cT x A (B 0) nc nt f1 g ++ CW cI cC cT B nc2 nt2 f2 g2) ++ (SM cI cL S C T nc nt f1 g))))) H → va_D A0 (([(mo, .inl (cI, 6, .inl mostA)), (wh, .inl (cI, 5, .inl (fun i => nI (wN i)))), (qc, .inl (cL, nc, .inr (.inr (.inr (.inr (fun i => some (r i))))))), (qt, .inl (cL, nt, .inr (.inr (.inr (.inr (fun i => some (r2 i))))))), (qh, .inl (cI, 10, .inl (cntF nt f g))), (qn, .inl (cI, 10, .inl th)), (qd, .inl (cI, nc, .inl dn))] : va_W) ++ (RT cI r2 f nt ++ (RC cI r f nc ++ ((YW cI cC cT x A (B 0) nc nt f1 g ++ CW cI cC cT B nc2 nt2 f2 g2) ++ (SM cI cL S C T nc nt f1 g))))) → va_S A0 s.heap H locs → ∀ ls, lv_has ls 30 [(24, .int (nI j)), (23, .int (meltS f f1 j)), (19, .int sv), (11, .ref qh), (10, .ref qt), (8, .int (nI nt)), (5, .int (nI time)), (4, .ref wh), (3, .ref mo), (2, .ref (S 0)), (1, .ref x), (0, .ref b)] → W p l e room_1 s m args below meth c H locs (cells + 8 * j) (slots + 48 * j) Q (F0 m 1074 ls []) := by
    intro n
    induction n with
    | zero =>
      intro j hj   H locs hP hD hS ls hl
      have hje : nt = j := by omega
      subst hje
      refine lv_iload hx hb dL_law_1074 (lv_at hl 0 rfl) ?_
      refine lv_iload hx hb dL_law_1076 (lv_at hl 5 rfl) ?_
      refine lv_icmp_ge (tgt := 1296) hx hb dL_law_1078 (by decide) (fun c_1078 => ?_) (fun c_1078 => ?_)
      rotate_left
      · exact absurd (Int32.le_refl _) c_1078
      refine lv_aload_n hx hb dL_law_1296 rfl (lv_at hl 10 rfl) ?_
      refine lv_bipush (v := 7) hx hb dL_law_1297 (by decide) ?_
      refine c1_V0 (xe_no (k_count (w := 7) (by decide))) (As := [.int 7]) (rest := []) (ws' := ([(mo, .inl (cI, 6, .inl mostA)), (wh, .inl (cI, 5, .inl (fun i => nI (wN i)))), (qc, .inl (cL, nc, .inr (.inr (.inr (.inr (fun i => some (r i))))))), (qt, .inl (cL, nt, .inr (.inr (.inr (.inr (fun i => some (r2 i))))))), (qh, .inl (cI, 10, .inl (cntF nt f g))), (qn, .inl (cI, 10, .inl th)), (qd, .inl (cI, nc, .inl dn))] : va_W) ++ (RT cI r2 f nt ++ (RC cI r f nc ++ ((YW cI cC cT x A (B 0) nc nt f1 g ++ CW cI cC cT B nc2 nt2 f2 g2) ++ (SM cI cL S C T nc nt f1 g))))) ⟨hx, hb, hml, hown, hts⟩ (mX3_count l D cI cC cT cL hl0 x (B 0) A nc nt f1 g 7 hnt (h + 1) (by omega) h01) (cwV 1 hts gL_law_X3_count rfl rfl rfl pX3_count ⟨by decide, by decide⟩) hK hP hD hS hA hST ((Jf_r _ (Jf_r _ (Jf_r _ (Jf_l _ (Jf_hd _ _ _ yw_fst)))))).1 ((Jf_r _ (Jf_r _ (Jf_r _ (Jf_l _ (Jf_hd _ _ _ yw_fst)))))).1 0 rfl rfl rfl rfl hl.1 rfl (Nat.le_of_ble_eq_true rfl) dL_law_1299 ⟨(by show _ ≤ 600130; omega), (by show _ ≤ 7301080; omega)⟩ rfl (fun H locs hP hD hS => ?_)
      rw [show cntF nt f1 g (7 : Int32).toNatClampNeg = cntF nt f1 g 7 from rfl]
      refine lv_aload hx hb dL_law_1302 (lv_at hl 3 rfl) ?_
      refine lv_bipush (v := 7) hx hb dL_law_1304 (by decide) ?_
      refine w_ildM hx hb hK hP (List.mem_append_left _ (List.mem_of_getElem? (i := 4) rfl)) rfl 7 rfl (by decide) (by decide) (v := (cntF nt f g) 7) rfl dL_law_1306 ?_
      refine lv_iload hx hb dL_law_1307 (lv_at hl 2 rfl) ?_
      refine lv_isub hx hb dL_law_1309 ?_
      refine lv_iload hx hb dL_law_1310 (lv_at hl 1 rfl) ?_
      refine lv_isub hx hb dL_law_1312 ?_
      refine lv_icmp_eq (tgt := 1318) hx hb dL_law_1313 (by decide) (fun c_1313 => ?_) (fun c_1313 => ?_)
      rotate_left
      · exact absurd (by rw [← hsv]; exact melt_sum f f1 nt) c_1313
      refine lv_iinc (v := nI (time + 1)) (lv' := [(5, .int (nI (time + 1))), (24, .int (nI nt)), (23, .int (meltS f f1 nt)), (19, .int sv), (11, .ref qh), (10, .ref qt), (8, .int (nI nt)), (4, .ref wh), (3, .ref mo), (2, .ref (S 0)), (1, .ref x), (0, .ref b)]) hx hb dL_law_1318 hl (k := 6) rfl (nI_succ _).symm (by decide) rfl (fun ls hl => ?_)
      refine lv_goto (tgt := 89) hx hb dL_law_1321 (by decide) ?_
      have pm9 := pm_fin (([(mo, .inl (cI, 6, .inl mostA)), (wh, .inl (cI, 5, .inl (fun i => nI (wN i))))] : va_W)) (([(qc, .inl (cL, nc, .inr (.inr (.inr (.inr (fun i => some (r i))))))), (qt, .inl (cL, nt, .inr (.inr (.inr (.inr (fun i => some (r2 i))))))), (qh, .inl (cI, 10, .inl (cntF nt f g))), (qn, .inl (cI, 10, .inl th)), (qd, .inl (cI, nc, .inl dn))] : va_W)) (RT cI r2 f nt) (RC cI r f nc) ((YW cI cC cT x A (B 0) nc nt f1 g ++ CW cI cC cT B nc2 nt2 f2 g2) ++ (SM cI cL S C T nc nt f1 g))
      have hP : va_P D vwCl (([(mo, .inl (cI, 6, .inl mostA)), (wh, .inl (cI, 5, .inl (fun i => nI (wN i))))] : va_W) ++ ((YW cI cC cT x A (B 0) nc nt f1 g ++ CW cI cC cT B nc2 nt2 f2 g2) ++ (SM cI cL S C T nc nt f1 g))) H := P_cut pm9 hP
      have hD : va_D A0 (([(mo, .inl (cI, 6, .inl mostA)), (wh, .inl (cI, 5, .inl (fun i => nI (wN i))))] : va_W) ++ ((YW cI cC cT x A (B 0) nc nt f1 g ++ CW cI cC cT B nc2 nt2 f2 g2) ++ (SM cI cL S C T nc nt f1 g))) := D_cut pm9 hD
      exact W.widen (by omega) (by omega) (K _ _ _ _ _ _ _ _ _ _ _ _ _ _ _ G1 (by omega) hP hD hS (lv_sub hl [0, 7, 8, 9, 10, 11] rfl))
    | succ n ih =>
      intro j hj   H locs hP hD hS ls hl
      obtain ⟨gn, y1, y2, y3, y4, y5⟩ := (by have h9 := hour_tub G (by omega) j (by omega); rw [← e1] at h9; exact h9 : ∃ gn : Nat, gn ≤ 2 ∧ f (19 + 3 * j) - f1 (19 + 3 * j) - (f1 (21 + 3 * j) - f (21 + 3 * j)) = nI gn ∧ (0 < f1 (19 + 3 * j) → ((nI gn = 2 ↔ f1 (20 + 3 * j) = 100) ∧ f1 (20 + 3 * j) = softB (f (20 + 3 * j)) (hotOf f g) (f 1))) ∧ (f1 (19 + 3 * j) = 0 → f1 (20 + 3 * j) = 0) ∧ f (21 + 3 * j) ≤ f1 (21 + 3 * j))
      refine lv_iload hx hb dL_law_1074 (lv_at hl 0 rfl) ?_
      refine lv_iload hx hb dL_law_1076 (lv_at hl 5 rfl) ?_
      refine lv_icmp_ge (tgt := 1296) hx hb dL_law_1078 (by decide) (fun c_1078 => ?_) (fun c_1078 => ?_)
      · exact absurd c_1078 (nI_ge (by omega) (by omega))
      refine lv_aload hx hb dL_law_1081 (lv_at hl 4 rfl) ?_
      refine lv_iload hx hb dL_law_1083 (lv_at hl 0 rfl) ?_
      refine w_qldA hx hb hK hP (List.mem_append_left _ (List.mem_of_getElem? (i := 3) rfl)) rfl j rfl (by omega) (by omega) (v := r2 j) rfl dL_law_1085 ?_
      refine lv_astore (lv' := [(25, .ref (r2 j)), (24, .int (nI j)), (23, .int (meltS f f1 j)), (19, .int sv), (11, .ref qh), (10, .ref qt), (8, .int (nI nt)), (5, .int (nI time)), (4, .ref wh), (3, .ref mo), (2, .ref (S 0)), (1, .ref x), (0, .ref b)]) hx hb dL_law_1086 hl (by decide) rfl (fun ls hl => ?_)
      refine lv_aload_n hx hb dL_law_1088 rfl (lv_at hl 11 rfl) ?_
      refine lv_iload hx hb dL_law_1089 (lv_at hl 1 rfl) ?_
      refine lv_iconst (v := 0) hx hb dL_law_1091 (by decide) ?_
      refine c1_V0 (xe_no (k_told (n := nt) (i := j) (w := 0) (by omega) (by omega) (by decide))) (As := [.int (nI j), .int 0]) (rest := []) (ws' := ([(mo, .inl (cI, 6, .inl mostA)), (wh, .inl (cI, 5, .inl (fun i => nI (wN i)))), (qc, .inl (cL, nc, .inr (.inr (.inr (.inr (fun i => some (r i))))))), (qt, .inl (cL, nt, .inr (.inr (.inr (.inr (fun i => some (r2 i))))))), (qh, .inl (cI, 10, .inl (cntF nt f g))), (qn, .inl (cI, 10, .inl th)), (qd, .inl (cI, nc, .inl dn))] : va_W) ++ (RT cI r2 f nt ++ (RC cI r f nc ++ ((YW cI cC cT x A (B 0) nc nt f1 g ++ CW cI cC cT B nc2 nt2 f2 g2) ++ (SM cI cL S C T nc nt f1 g))))) ⟨hx, hb, hml, hown, hts⟩ (mX3_about l D cI cC cT cL hl0 x (B 0) A nc nt f1 g (nI j) 0 hnt) (cwV 2 hts gL_law_X3_about rfl rfl rfl pX3_about ⟨by decide, by decide⟩) hK hP hD hS hA hST ((Jf_r _ (Jf_r _ (Jf_r _ (Jf_l _ (Jf_hd _ _ _ yw_fst)))))).1 ((Jf_r _ (Jf_r _ (Jf_r _ (Jf_l _ (Jf_hd _ _ _ yw_fst)))))).1 0 rfl rfl rfl rfl hl.1 rfl (Nat.le_of_ble_eq_true rfl) dL_law_1092 ⟨(by show _ ≤ 600130; omega), (by show _ ≤ 7301080; omega)⟩ rfl (fun H locs hP hD hS => ?_)
      rw [show pick3 (0 : Int32).toNatClampNeg (f1 (19 + 3 * (nI j).toNatClampNeg)) (f1 (20 + 3 * (nI j).toNatClampNeg)) (f1 (21 + 3 * (nI j).toNatClampNeg)) = f1 (19 + 3 * j) by rw [nI_clamp (n := j) (by omega)] <;> rfl]
      refine lv_istore (lv' := [(26, .int (f1 (19 + 3 * j))), (25, .ref (r2 j)), (24, .int (nI j)), (23, .int (meltS f f1 j)), (19, .int sv), (11, .ref qh), (10, .ref qt), (8, .int (nI nt)), (5, .int (nI time)), (4, .ref wh), (3, .ref mo), (2, .ref (S 0)), (1, .ref x), (0, .ref b)]) hx hb dL_law_1095 hl (by decide) rfl (fun ls hl => ?_)
      refine lv_aload_n hx hb dL_law_1097 rfl (lv_at hl 12 rfl) ?_
      refine lv_iload hx hb dL_law_1098 (lv_at hl 2 rfl) ?_
      refine lv_iconst (v := 1) hx hb dL_law_1100 (by decide) ?_
      refine c1_V0 (xe_no (k_told (n := nt) (i := j) (w := 1) (by omega) (by omega) (by decide))) (As := [.int (nI j), .int 1]) (rest := []) (ws' := ([(mo, .inl (cI, 6, .inl mostA)), (wh, .inl (cI, 5, .inl (fun i => nI (wN i)))), (qc, .inl (cL, nc, .inr (.inr (.inr (.inr (fun i => some (r i))))))), (qt, .inl (cL, nt, .inr (.inr (.inr (.inr (fun i => some (r2 i))))))), (qh, .inl (cI, 10, .inl (cntF nt f g))), (qn, .inl (cI, 10, .inl th)), (qd, .inl (cI, nc, .inl dn))] : va_W) ++ (RT cI r2 f nt ++ (RC cI r f nc ++ ((YW cI cC cT x A (B 0) nc nt f1 g ++ CW cI cC cT B nc2 nt2 f2 g2) ++ (SM cI cL S C T nc nt f1 g))))) ⟨hx, hb, hml, hown, hts⟩ (mX3_about l D cI cC cT cL hl0 x (B 0) A nc nt f1 g (nI j) 1 hnt) (cwV 2 hts gL_law_X3_about rfl rfl rfl pX3_about ⟨by decide, by decide⟩) hK hP hD hS hA hST ((Jf_r _ (Jf_r _ (Jf_r _ (Jf_l _ (Jf_hd _ _ _ yw_fst)))))).1 ((Jf_r _ (Jf_r _ (Jf_r _ (Jf_l _ (Jf_hd _ _ _ yw_fst)))))).1 0 rfl rfl rfl rfl hl.1 rfl (Nat.le_of_ble_eq_true rfl) dL_law_1101 ⟨(by show _ ≤ 600130; omega), (by show _ ≤ 7301080; omega)⟩ rfl (fun H locs hP hD hS => ?_)
      rw [show pick3 (1 : Int32).toNatClampNeg (f1 (19 + 3 * (nI j).toNatClampNeg)) (f1 (20 + 3 * (nI j).toNatClampNeg)) (f1 (21 + 3 * (nI j).toNatClampNeg)) = f1 (20 + 3 * j) by rw [nI_clamp (n := j) (by omega)] <;> rfl]
      refine lv_istore (lv' := [(27, .int (f1 (20 + 3 * j))), (26, .int (f1 (19 + 3 * j))), (25, .ref (r2 j)), (24, .int (nI j)), (23, .int (meltS f f1 j)), (19, .int sv), (11, .ref qh), (10, .ref qt), (8, .int (nI nt)), (5, .int (nI time)), (4, .ref wh), (3, .ref mo), (2, .ref (S 0)), (1, .ref x), (0, .ref b)]) hx hb dL_law_1104 hl (by decide) rfl (fun ls hl => ?_)
      refine lv_aload hx hb dL_law_1106 (lv_at hl 2 rfl) ?_
      refine lv_iconst (v := 0) hx hb dL_law_1108 (by decide) ?_
      refine w_ildM hx hb hK hP (List.mem_append_right _ (List.mem_append_left _ (List.mem_of_getElem? (rt_get (by omega))))) rfl 0 rfl (by decide) (by decide) (v := f (19 + 3 * j)) rfl dL_law_1109 ?_
      refine lv_iload hx hb dL_law_1110 (lv_at hl 1 rfl) ?_
      refine lv_isub hx hb dL_law_1112 ?_
      refine lv_aload_n hx hb dL_law_1113 rfl (lv_at hl 13 rfl) ?_
      refine lv_iload hx hb dL_law_1114 (lv_at hl 3 rfl) ?_
      refine lv_iconst (v := 2) hx hb dL_law_1116 (by decide) ?_
      refine c1_V0 (xe_no (k_told (n := nt) (i := j) (w := 2) (by omega) (by omega) (by decide))) (As := [.int (nI j), .int 2]) (rest := [.int ((f (19 + 3 * j)) - (f1 (19 + 3 * j)))]) (ws' := ([(mo, .inl (cI, 6, .inl mostA)), (wh, .inl (cI, 5, .inl (fun i => nI (wN i)))), (qc, .inl (cL, nc, .inr (.inr (.inr (.inr (fun i => some (r i))))))), (qt, .inl (cL, nt, .inr (.inr (.inr (.inr (fun i => some (r2 i))))))), (qh, .inl (cI, 10, .inl (cntF nt f g))), (qn, .inl (cI, 10, .inl th)), (qd, .inl (cI, nc, .inl dn))] : va_W) ++ (RT cI r2 f nt ++ (RC cI r f nc ++ ((YW cI cC cT x A (B 0) nc nt f1 g ++ CW cI cC cT B nc2 nt2 f2 g2) ++ (SM cI cL S C T nc nt f1 g))))) ⟨hx, hb, hml, hown, hts⟩ (mX3_about l D cI cC cT cL hl0 x (B 0) A nc nt f1 g (nI j) 2 hnt) (cwV 2 hts gL_law_X3_about rfl rfl rfl pX3_about ⟨by decide, by decide⟩) hK hP hD hS hA hST ((Jf_r _ (Jf_r _ (Jf_r _ (Jf_l _ (Jf_hd _ _ _ yw_fst)))))).1 ((Jf_r _ (Jf_r _ (Jf_r _ (Jf_l _ (Jf_hd _ _ _ yw_fst)))))).1 0 rfl rfl rfl rfl hl.1 rfl (Nat.le_of_ble_eq_true rfl) dL_law_1117 ⟨(by show _ ≤ 600130; omega), (by show _ ≤ 7301080; omega)⟩ rfl (fun H locs hP hD hS => ?_)
      rw [show pick3 (2 : Int32).toNatClampNeg (f1 (19 + 3 * (nI j).toNatClampNeg)) (f1 (20 + 3 * (nI j).toNatClampNeg)) (f1 (21 + 3 * (nI j).toNatClampNeg)) = f1 (21 + 3 * j) by rw [nI_clamp (n := j) (by omega)] <;> rfl]
      refine lv_aload hx hb dL_law_1120 (lv_at hl 2 rfl) ?_
      refine lv_iconst (v := 2) hx hb dL_law_1122 (by decide) ?_
      refine w_ildM hx hb hK hP (List.mem_append_right _ (List.mem_append_left _ (List.mem_of_getElem? (rt_get (by omega))))) rfl 2 rfl (by decide) (by decide) (v := f (21 + 3 * j)) rfl dL_law_1123 ?_
      refine lv_isub hx hb dL_law_1124 ?_
      refine lv_isub hx hb dL_law_1125 ?_
      refine lv_istore (lv' := [(28, .int (((f (19 + 3 * j)) - (f1 (19 + 3 * j))) - ((f1 (21 + 3 * j)) - (f (21 + 3 * j))))), (27, .int (f1 (20 + 3 * j))), (26, .int (f1 (19 + 3 * j))), (25, .ref (r2 j)), (24, .int (nI j)), (23, .int (meltS f f1 j)), (19, .int sv), (11, .ref qh), (10, .ref qt), (8, .int (nI nt)), (5, .int (nI time)), (4, .ref wh), (3, .ref mo), (2, .ref (S 0)), (1, .ref x), (0, .ref b)]) hx hb dL_law_1126 hl (by decide) rfl (fun ls hl => ?_)
      refine lv_iload hx hb dL_law_1128 (lv_at hl 5 rfl) ?_
      refine lv_iload hx hb dL_law_1130 (lv_at hl 0 rfl) ?_
      refine lv_iadd hx hb dL_law_1132 ?_
      refine lv_istore (lv' := [(23, .int ((meltS f f1 j) + (((f (19 + 3 * j)) - (f1 (19 + 3 * j))) - ((f1 (21 + 3 * j)) - (f (21 + 3 * j)))))), (28, .int (((f (19 + 3 * j)) - (f1 (19 + 3 * j))) - ((f1 (21 + 3 * j)) - (f (21 + 3 * j))))), (27, .int (f1 (20 + 3 * j))), (26, .int (f1 (19 + 3 * j))), (25, .ref (r2 j)), (24, .int (nI j)), (19, .int sv), (11, .ref qh), (10, .ref qt), (8, .int (nI nt)), (5, .int (nI time)), (4, .ref wh), (3, .ref mo), (2, .ref (S 0)), (1, .ref x), (0, .ref b)]) hx hb dL_law_1133 hl (by decide) rfl (fun ls hl => ?_)
      refine lv_iload hx hb dL_law_1135 (lv_at hl 3 rfl) ?_
      refine lv_if_lt (tgt := 1225) hx hb dL_law_1137 (by decide) (fun c_1137 => ?_) (fun c_1137 => ?_)
      · exact absurd c_1137 (bd_n0 (hI1.2.2 j (by omega)).1)
      refine lv_iload hx hb dL_law_1140 (lv_at hl 3 rfl) ?_
      refine lv_bipush (v := 60) hx hb dL_law_1142 (by decide) ?_
      refine lv_icmp_gt (tgt := 1225) hx hb dL_law_1144 (by decide) (fun c_1144 => ?_) (fun c_1144 => ?_)
      · exact absurd c_1144 (bd_60 (hI1.2.2 j (by omega)).1)
      refine lv_iload hx hb dL_law_1147 (lv_at hl 2 rfl) ?_
      refine lv_if_lt (tgt := 1225) hx hb dL_law_1149 (by decide) (fun c_1149 => ?_) (fun c_1149 => ?_)
      · exact absurd c_1149 (bd_n0 (hI1.2.2 j (by omega)).2)
      refine lv_iload hx hb dL_law_1152 (lv_at hl 2 rfl) ?_
      refine lv_bipush (v := 100) hx hb dL_law_1154 (by decide) ?_
      refine lv_icmp_gt (tgt := 1225) hx hb dL_law_1156 (by decide) (fun c_1156 => ?_) (fun c_1156 => ?_)
      · exact absurd c_1156 (bd_100 (hI1.2.2 j (by omega)).2)
      refine lv_iload hx hb dL_law_1159 (lv_at hl 1 rfl) ?_
      refine lv_if_lt (tgt := 1225) hx hb dL_law_1161 (by decide) (fun c_1161 => ?_) (fun c_1161 => ?_)
      · exact absurd c_1161 (by rw [y2]; exact nI_n0 (by omega))
      refine lv_iload hx hb dL_law_1164 (lv_at hl 1 rfl) ?_
      refine lv_iconst (v := 2) hx hb dL_law_1166 (by decide) ?_
      refine lv_icmp_gt (tgt := 1225) hx hb dL_law_1167 (by decide) (fun c_1167 => ?_) (fun c_1167 => ?_)
      · exact absurd c_1167 (by rw [y2]; exact nI_n2 y1)
      refine lv_iload hx hb dL_law_1170 (lv_at hl 3 rfl) ?_
      refine lv_if_ne (tgt := 1180) hx hb dL_law_1172 (by decide) (fun c_1172 => ?_) (fun c_1172 => ?_)
      ·
        refine lv_iload hx hb dL_law_1180 (lv_at hl 3 rfl) ?_
        refine lv_if_le (tgt := 1211) hx hb dL_law_1182 (by decide) (fun c_1182 => ?_) (fun c_1182 => ?_)
        · exact absurd (le0_0 (hI1.2.2 j (by omega)).1 c_1182) c_1172
        refine lv_iload hx hb dL_law_1185 (lv_at hl 1 rfl) ?_
        refine lv_iconst (v := 2) hx hb dL_law_1187 (by decide) ?_
        refine lv_icmp_ne (tgt := 1195) hx hb dL_law_1188 (by decide) (fun c_1188 => ?_) (fun c_1188 => ?_)
        ·
          refine lv_iconst (v := 0) hx hb dL_law_1195 (by decide) ?_
          refine lv_iload hx hb dL_law_1196 (lv_at hl 2 rfl) ?_
          refine lv_bipush (v := 100) hx hb dL_law_1198 (by decide) ?_
          refine lv_icmp_ne (tgt := 1207) hx hb dL_law_1200 (by decide) (fun c_1200 => ?_) (fun c_1200 => ?_)
          rotate_left
          · exact absurd (y2.trans ((y3 (Int32.not_le.mp c_1182)).1.mpr c_1200)) c_1188
          refine lv_iconst (v := 0) hx hb dL_law_1207 (by decide) ?_
          refine lv_icmp_ne (tgt := 1225) hx hb dL_law_1208 (by decide) (fun c_1208 => ?_) (fun c_1208 => ?_)
          · exact absurd rfl c_1208
          refine lv_aload_n hx hb dL_law_1211 rfl (lv_at hl 14 rfl) ?_
          refine lv_iload hx hb dL_law_1212 (lv_at hl 5 rfl) ?_
          refine lv_iconst (v := 2) hx hb dL_law_1214 (by decide) ?_
          refine c1_V0 (xe_no (k_told (n := nt) (i := j) (w := 2) (by omega) (by omega) (by decide))) (As := [.int (nI j), .int 2]) (rest := []) (ws' := ([(mo, .inl (cI, 6, .inl mostA)), (wh, .inl (cI, 5, .inl (fun i => nI (wN i)))), (qc, .inl (cL, nc, .inr (.inr (.inr (.inr (fun i => some (r i))))))), (qt, .inl (cL, nt, .inr (.inr (.inr (.inr (fun i => some (r2 i))))))), (qh, .inl (cI, 10, .inl (cntF nt f g))), (qn, .inl (cI, 10, .inl th)), (qd, .inl (cI, nc, .inl dn))] : va_W) ++ (RT cI r2 f nt ++ (RC cI r f nc ++ ((YW cI cC cT x A (B 0) nc nt f1 g ++ CW cI cC cT B nc2 nt2 f2 g2) ++ (SM cI cL S C T nc nt f1 g))))) ⟨hx, hb, hml, hown, hts⟩ (mX3_about l D cI cC cT cL hl0 x (B 0) A nc nt f1 g (nI j) 2 hnt) (cwV 2 hts gL_law_X3_about rfl rfl rfl pX3_about ⟨by decide, by decide⟩) hK hP hD hS hA hST ((Jf_r _ (Jf_r _ (Jf_r _ (Jf_l _ (Jf_hd _ _ _ yw_fst)))))).1 ((Jf_r _ (Jf_r _ (Jf_r _ (Jf_l _ (Jf_hd _ _ _ yw_fst)))))).1 0 rfl rfl rfl rfl hl.1 rfl (Nat.le_of_ble_eq_true rfl) dL_law_1215 ⟨(by show _ ≤ 600130; omega), (by show _ ≤ 7301080; omega)⟩ rfl (fun H locs hP hD hS => ?_)
          rw [show pick3 (2 : Int32).toNatClampNeg (f1 (19 + 3 * (nI j).toNatClampNeg)) (f1 (20 + 3 * (nI j).toNatClampNeg)) (f1 (21 + 3 * (nI j).toNatClampNeg)) = f1 (21 + 3 * j) by rw [nI_clamp (n := j) (by omega)] <;> rfl]
          refine lv_aload hx hb dL_law_1218 (lv_at hl 4 rfl) ?_
          refine lv_iconst (v := 2) hx hb dL_law_1220 (by decide) ?_
          refine w_ildM hx hb hK hP (List.mem_append_right _ (List.mem_append_left _ (List.mem_of_getElem? (rt_get (by omega))))) rfl 2 rfl (by decide) (by decide) (v := f (21 + 3 * j)) rfl dL_law_1221 ?_
          refine lv_icmp_ge (tgt := 1227) hx hb dL_law_1222 (by decide) (fun c_1222 => ?_) (fun c_1222 => ?_)
          rotate_left
          · exact absurd y5 c_1222
          refine lv_aload hx hb dL_law_1227 (lv_at hl 7 rfl) ?_
          refine lv_iconst (v := 1) hx hb dL_law_1229 (by decide) ?_
          refine w_ildM hx hb hK hP (List.mem_append_left _ (List.mem_of_getElem? (i := 4) rfl)) rfl 1 rfl (by decide) (by decide) (v := (cntF nt f g) 1) rfl dL_law_1230 ?_
          refine lv_bipush (v := 20) hx hb dL_law_1231 (by decide) ?_
          refine lv_icmp_le (tgt := 1259) hx hb dL_law_1233 (by decide) (fun c_1233 => ?_) (fun c_1233 => ?_)
          ·
            refine lv_iconst (v := (-1)) hx hb dL_law_1259 (by decide) ?_
            refine lv_istore (lv' := [(29, .int (-1)), (23, .int ((meltS f f1 j) + (((f (19 + 3 * j)) - (f1 (19 + 3 * j))) - ((f1 (21 + 3 * j)) - (f (21 + 3 * j)))))), (28, .int (((f (19 + 3 * j)) - (f1 (19 + 3 * j))) - ((f1 (21 + 3 * j)) - (f (21 + 3 * j))))), (27, .int (f1 (20 + 3 * j))), (26, .int (f1 (19 + 3 * j))), (25, .ref (r2 j)), (24, .int (nI j)), (19, .int sv), (11, .ref qh), (10, .ref qt), (8, .int (nI nt)), (5, .int (nI time)), (4, .ref wh), (3, .ref mo), (2, .ref (S 0)), (1, .ref x), (0, .ref b)]) hx hb dL_law_1260 hl (by decide) rfl (fun ls hl => ?_)
            refine lv_iload hx hb dL_law_1262 (lv_at hl 4 rfl) ?_
            refine lv_if_le (tgt := 1290) hx hb dL_law_1264 (by decide) (fun c_1264 => ?_) (fun c_1264 => ?_)
            · exact absurd c_1264 c_1182
            refine lv_iload hx hb dL_law_1267 (lv_at hl 3 rfl) ?_
            refine lv_iconst (v := 0) hx hb dL_law_1269 (by decide) ?_
            refine lv_bipush (v := 100) hx hb dL_law_1270 (by decide) ?_
            refine lv_aload hx hb dL_law_1272 (lv_at hl 5 rfl) ?_
            refine lv_iconst (v := 1) hx hb dL_law_1274 (by decide) ?_
            refine w_ildM hx hb hK hP (List.mem_append_right _ (List.mem_append_left _ (List.mem_of_getElem? (rt_get (by omega))))) rfl 1 rfl (by decide) (by decide) (v := f (20 + 3 * j)) rfl dL_law_1275 ?_
            refine lv_iload hx hb dL_law_1276 (lv_at hl 0 rfl) ?_
            refine lv_iadd hx hb dL_law_1278 ?_
            refine w_mmin hx hb (hml.trans hl.1.symm) hown (hts _ mlL_law_28) (hts _ msL_law_min) (hts _ miL_law) (hts _ mcL_law_min) (Nat.le_of_ble_eq_true rfl) (Nat.le_of_ble_eq_true rfl) (by show _ ≤ 600130; omega) (by show _ ≤ 7301080; omega) dL_law_1279 ?_
            refine w_mmax hx hb (hml.trans hl.1.symm) hown (hts _ mlL_law_64) (hts _ msL_law_max) (hts _ miL_law) (hts _ mcL_law_max) (Nat.le_of_ble_eq_true rfl) (Nat.le_of_ble_eq_true rfl) (by show _ ≤ 600130; omega) (by show _ ≤ 7301080; omega) dL_law_1282 ?_
            refine lv_icmp_eq (tgt := 1290) hx hb dL_law_1285 (by decide) (fun c_1285 => ?_) (fun c_1285 => ?_)
            rotate_left
            · exact absurd ((y3 (Int32.not_le.mp c_1182)).2.trans (so_2 (hI.2.2 j (by omega)).2 (Or.inl c_1233))) c_1285
            refine lv_iinc (v := nI (j + 1)) (lv' := [(24, .int (nI (j + 1))), (29, .int (-1)), (23, .int ((meltS f f1 j) + (((f (19 + 3 * j)) - (f1 (19 + 3 * j))) - ((f1 (21 + 3 * j)) - (f (21 + 3 * j)))))), (28, .int (((f (19 + 3 * j)) - (f1 (19 + 3 * j))) - ((f1 (21 + 3 * j)) - (f (21 + 3 * j))))), (27, .int (f1 (20 + 3 * j))), (26, .int (f1 (19 + 3 * j))), (25, .ref (r2 j)), (19, .int sv), (11, .ref qh), (10, .ref qt), (8, .int (nI nt)), (5, .int (nI time)), (4, .ref wh), (3, .ref mo), (2, .ref (S 0)), (1, .ref x), (0, .ref b)]) hx hb dL_law_1290 hl (k := 6) rfl (nI_succ _).symm (by decide) rfl (fun ls hl => ?_)
            refine lv_goto (tgt := 1074) hx hb dL_law_1293 (by decide) ?_
            exact W.widen (by omega) (by omega) (ih (j + 1) (by omega) _ _ hP hD hS _ (lv_sub hl [0, 2, 7, 8, 9, 10, 11, 12, 13, 14, 15, 16] rfl))
          ·
            refine lv_aload hx hb dL_law_1236 (lv_at hl 7 rfl) ?_
            refine lv_iconst (v := 2) hx hb dL_law_1238 (by decide) ?_
            refine w_ildM hx hb hK hP (List.mem_append_left _ (List.mem_of_getElem? (i := 4) rfl)) rfl 2 rfl (by decide) (by decide) (v := (cntF nt f g) 2) rfl dL_law_1239 ?_
            refine lv_bipush (v := 100) hx hb dL_law_1240 (by decide) ?_
            refine lv_icmp_ge (tgt := 1259) hx hb dL_law_1242 (by decide) (fun c_1242 => ?_) (fun c_1242 => ?_)
            ·
              refine lv_iconst (v := (-1)) hx hb dL_law_1259 (by decide) ?_
              refine lv_istore (lv' := [(29, .int (-1)), (23, .int ((meltS f f1 j) + (((f (19 + 3 * j)) - (f1 (19 + 3 * j))) - ((f1 (21 + 3 * j)) - (f (21 + 3 * j)))))), (28, .int (((f (19 + 3 * j)) - (f1 (19 + 3 * j))) - ((f1 (21 + 3 * j)) - (f (21 + 3 * j))))), (27, .int (f1 (20 + 3 * j))), (26, .int (f1 (19 + 3 * j))), (25, .ref (r2 j)), (24, .int (nI j)), (19, .int sv), (11, .ref qh), (10, .ref qt), (8, .int (nI nt)), (5, .int (nI time)), (4, .ref wh), (3, .ref mo), (2, .ref (S 0)), (1, .ref x), (0, .ref b)]) hx hb dL_law_1260 hl (by decide) rfl (fun ls hl => ?_)
              refine lv_iload hx hb dL_law_1262 (lv_at hl 4 rfl) ?_
              refine lv_if_le (tgt := 1290) hx hb dL_law_1264 (by decide) (fun c_1264 => ?_) (fun c_1264 => ?_)
              · exact absurd c_1264 c_1182
              refine lv_iload hx hb dL_law_1267 (lv_at hl 3 rfl) ?_
              refine lv_iconst (v := 0) hx hb dL_law_1269 (by decide) ?_
              refine lv_bipush (v := 100) hx hb dL_law_1270 (by decide) ?_
              refine lv_aload hx hb dL_law_1272 (lv_at hl 5 rfl) ?_
              refine lv_iconst (v := 1) hx hb dL_law_1274 (by decide) ?_
              refine w_ildM hx hb hK hP (List.mem_append_right _ (List.mem_append_left _ (List.mem_of_getElem? (rt_get (by omega))))) rfl 1 rfl (by decide) (by decide) (v := f (20 + 3 * j)) rfl dL_law_1275 ?_
              refine lv_iload hx hb dL_law_1276 (lv_at hl 0 rfl) ?_
              refine lv_iadd hx hb dL_law_1278 ?_
              refine w_mmin hx hb (hml.trans hl.1.symm) hown (hts _ mlL_law_28) (hts _ msL_law_min) (hts _ miL_law) (hts _ mcL_law_min) (Nat.le_of_ble_eq_true rfl) (Nat.le_of_ble_eq_true rfl) (by show _ ≤ 600130; omega) (by show _ ≤ 7301080; omega) dL_law_1279 ?_
              refine w_mmax hx hb (hml.trans hl.1.symm) hown (hts _ mlL_law_64) (hts _ msL_law_max) (hts _ miL_law) (hts _ mcL_law_max) (Nat.le_of_ble_eq_true rfl) (Nat.le_of_ble_eq_true rfl) (by show _ ≤ 600130; omega) (by show _ ≤ 7301080; omega) dL_law_1282 ?_
              refine lv_icmp_eq (tgt := 1290) hx hb dL_law_1285 (by decide) (fun c_1285 => ?_) (fun c_1285 => ?_)
              rotate_left
              · exact absurd ((y3 (Int32.not_le.mp c_1182)).2.trans (so_2 (hI.2.2 j (by omega)).2 (Or.inr c_1242))) c_1285
              refine lv_iinc (v := nI (j + 1)) (lv' := [(24, .int (nI (j + 1))), (29, .int (-1)), (23, .int ((meltS f f1 j) + (((f (19 + 3 * j)) - (f1 (19 + 3 * j))) - ((f1 (21 + 3 * j)) - (f (21 + 3 * j)))))), (28, .int (((f (19 + 3 * j)) - (f1 (19 + 3 * j))) - ((f1 (21 + 3 * j)) - (f (21 + 3 * j))))), (27, .int (f1 (20 + 3 * j))), (26, .int (f1 (19 + 3 * j))), (25, .ref (r2 j)), (19, .int sv), (11, .ref qh), (10, .ref qt), (8, .int (nI nt)), (5, .int (nI time)), (4, .ref wh), (3, .ref mo), (2, .ref (S 0)), (1, .ref x), (0, .ref b)]) hx hb dL_law_1290 hl (k := 6) rfl (nI_succ _).symm (by decide) rfl (fun ls hl => ?_)
              refine lv_goto (tgt := 1074) hx hb dL_law_1293 (by decide) ?_
              exact W.widen (by omega) (by omega) (ih (j + 1) (by omega) _ _ hP hD hS _ (lv_sub hl [0, 2, 7, 8, 9, 10, 11, 12, 13, 14, 15, 16] rfl))
            ·
              refine lv_aload hx hb dL_law_1245 (lv_at hl 7 rfl) ?_
              refine lv_iconst (v := 1) hx hb dL_law_1247 (by decide) ?_
              refine w_ildM hx hb hK hP (List.mem_append_left _ (List.mem_of_getElem? (i := 4) rfl)) rfl 1 rfl (by decide) (by decide) (v := (cntF nt f g) 1) rfl dL_law_1248 ?_
              refine lv_bipush (v := 20) hx hb dL_law_1249 (by decide) ?_
              refine lv_isub hx hb dL_law_1251 ?_
              refine lv_iconst (v := 4) hx hb dL_law_1252 (by decide) ?_
              refine lv_idiv hx hb dL_law_1253 (by decide) ?_
              refine lv_iconst (v := 1) hx hb dL_law_1254 (by decide) ?_
              refine lv_iadd hx hb dL_law_1255 ?_
              refine lv_goto (tgt := 1260) hx hb dL_law_1256 (by decide) ?_
              refine lv_istore (lv' := [(29, .int (((((cntF nt f g) 1) - 20) / 4) + 1)), (23, .int ((meltS f f1 j) + (((f (19 + 3 * j)) - (f1 (19 + 3 * j))) - ((f1 (21 + 3 * j)) - (f (21 + 3 * j)))))), (28, .int (((f (19 + 3 * j)) - (f1 (19 + 3 * j))) - ((f1 (21 + 3 * j)) - (f (21 + 3 * j))))), (27, .int (f1 (20 + 3 * j))), (26, .int (f1 (19 + 3 * j))), (25, .ref (r2 j)), (24, .int (nI j)), (19, .int sv), (11, .ref qh), (10, .ref qt), (8, .int (nI nt)), (5, .int (nI time)), (4, .ref wh), (3, .ref mo), (2, .ref (S 0)), (1, .ref x), (0, .ref b)]) hx hb dL_law_1260 hl (by decide) rfl (fun ls hl => ?_)
              refine lv_iload hx hb dL_law_1262 (lv_at hl 4 rfl) ?_
              refine lv_if_le (tgt := 1290) hx hb dL_law_1264 (by decide) (fun c_1264 => ?_) (fun c_1264 => ?_)
              · exact absurd c_1264 c_1182
              refine lv_iload hx hb dL_law_1267 (lv_at hl 3 rfl) ?_
              refine lv_iconst (v := 0) hx hb dL_law_1269 (by decide) ?_
              refine lv_bipush (v := 100) hx hb dL_law_1270 (by decide) ?_
              refine lv_aload hx hb dL_law_1272 (lv_at hl 5 rfl) ?_
              refine lv_iconst (v := 1) hx hb dL_law_1274 (by decide) ?_
              refine w_ildM hx hb hK hP (List.mem_append_right _ (List.mem_append_left _ (List.mem_of_getElem? (rt_get (by omega))))) rfl 1 rfl (by decide) (by decide) (v := f (20 + 3 * j)) rfl dL_law_1275 ?_
              refine lv_iload hx hb dL_law_1276 (lv_at hl 0 rfl) ?_
              refine lv_iadd hx hb dL_law_1278 ?_
              refine w_mmin hx hb (hml.trans hl.1.symm) hown (hts _ mlL_law_28) (hts _ msL_law_min) (hts _ miL_law) (hts _ mcL_law_min) (Nat.le_of_ble_eq_true rfl) (Nat.le_of_ble_eq_true rfl) (by show _ ≤ 600130; omega) (by show _ ≤ 7301080; omega) dL_law_1279 ?_
              refine w_mmax hx hb (hml.trans hl.1.symm) hown (hts _ mlL_law_64) (hts _ msL_law_max) (hts _ miL_law) (hts _ mcL_law_max) (Nat.le_of_ble_eq_true rfl) (Nat.le_of_ble_eq_true rfl) (by show _ ≤ 600130; omega) (by show _ ≤ 7301080; omega) dL_law_1282 ?_
              refine lv_icmp_eq (tgt := 1290) hx hb dL_law_1285 (by decide) (fun c_1285 => ?_) (fun c_1285 => ?_)
              rotate_left
              · exact absurd ((y3 (Int32.not_le.mp c_1182)).2.trans (so_1 (n := 0) (hI.2.2 j (by omega)).2 (hg (hrN f / 24 % 7) (Nat.mod_lt _ (by decide))) c_1233 c_1242)) c_1285
              refine lv_iinc (v := nI (j + 1)) (lv' := [(24, .int (nI (j + 1))), (29, .int (((((cntF nt f g) 1) - 20) / 4) + 1)), (23, .int ((meltS f f1 j) + (((f (19 + 3 * j)) - (f1 (19 + 3 * j))) - ((f1 (21 + 3 * j)) - (f (21 + 3 * j)))))), (28, .int (((f (19 + 3 * j)) - (f1 (19 + 3 * j))) - ((f1 (21 + 3 * j)) - (f (21 + 3 * j))))), (27, .int (f1 (20 + 3 * j))), (26, .int (f1 (19 + 3 * j))), (25, .ref (r2 j)), (19, .int sv), (11, .ref qh), (10, .ref qt), (8, .int (nI nt)), (5, .int (nI time)), (4, .ref wh), (3, .ref mo), (2, .ref (S 0)), (1, .ref x), (0, .ref b)]) hx hb dL_law_1290 hl (k := 6) rfl (nI_succ _).symm (by decide) rfl (fun ls hl => ?_)
              refine lv_goto (tgt := 1074) hx hb dL_law_1293 (by decide) ?_
              exact W.widen (by omega) (by omega) (ih (j + 1) (by omega) _ _ hP hD hS _ (lv_sub hl [0, 2, 7, 8, 9, 10, 11, 12, 13, 14, 15, 16] rfl))
        ·
          refine lv_iconst (v := 1) hx hb dL_law_1191 (by decide) ?_
          refine lv_goto (tgt := 1196) hx hb dL_law_1192 (by decide) ?_
          refine lv_iload hx hb dL_law_1196 (lv_at hl 2 rfl) ?_
          refine lv_bipush (v := 100) hx hb dL_law_1198 (by decide) ?_
          refine lv_icmp_ne (tgt := 1207) hx hb dL_law_1200 (by decide) (fun c_1200 => ?_) (fun c_1200 => ?_)
          · exact absurd ((y3 (Int32.not_le.mp c_1182)).1.mp (y2.symm.trans c_1188)) c_1200
          refine lv_iconst (v := 1) hx hb dL_law_1203 (by decide) ?_
          refine lv_goto (tgt := 1208) hx hb dL_law_1204 (by decide) ?_
          refine lv_icmp_ne (tgt := 1225) hx hb dL_law_1208 (by decide) (fun c_1208 => ?_) (fun c_1208 => ?_)
          · exact absurd rfl c_1208
          refine lv_aload_n hx hb dL_law_1211 rfl (lv_at hl 14 rfl) ?_
          refine lv_iload hx hb dL_law_1212 (lv_at hl 5 rfl) ?_
          refine lv_iconst (v := 2) hx hb dL_law_1214 (by decide) ?_
          refine c1_V0 (xe_no (k_told (n := nt) (i := j) (w := 2) (by omega) (by omega) (by decide))) (As := [.int (nI j), .int 2]) (rest := []) (ws' := ([(mo, .inl (cI, 6, .inl mostA)), (wh, .inl (cI, 5, .inl (fun i => nI (wN i)))), (qc, .inl (cL, nc, .inr (.inr (.inr (.inr (fun i => some (r i))))))), (qt, .inl (cL, nt, .inr (.inr (.inr (.inr (fun i => some (r2 i))))))), (qh, .inl (cI, 10, .inl (cntF nt f g))), (qn, .inl (cI, 10, .inl th)), (qd, .inl (cI, nc, .inl dn))] : va_W) ++ (RT cI r2 f nt ++ (RC cI r f nc ++ ((YW cI cC cT x A (B 0) nc nt f1 g ++ CW cI cC cT B nc2 nt2 f2 g2) ++ (SM cI cL S C T nc nt f1 g))))) ⟨hx, hb, hml, hown, hts⟩ (mX3_about l D cI cC cT cL hl0 x (B 0) A nc nt f1 g (nI j) 2 hnt) (cwV 2 hts gL_law_X3_about rfl rfl rfl pX3_about ⟨by decide, by decide⟩) hK hP hD hS hA hST ((Jf_r _ (Jf_r _ (Jf_r _ (Jf_l _ (Jf_hd _ _ _ yw_fst)))))).1 ((Jf_r _ (Jf_r _ (Jf_r _ (Jf_l _ (Jf_hd _ _ _ yw_fst)))))).1 0 rfl rfl rfl rfl hl.1 rfl (Nat.le_of_ble_eq_true rfl) dL_law_1215 ⟨(by show _ ≤ 600130; omega), (by show _ ≤ 7301080; omega)⟩ rfl (fun H locs hP hD hS => ?_)
          rw [show pick3 (2 : Int32).toNatClampNeg (f1 (19 + 3 * (nI j).toNatClampNeg)) (f1 (20 + 3 * (nI j).toNatClampNeg)) (f1 (21 + 3 * (nI j).toNatClampNeg)) = f1 (21 + 3 * j) by rw [nI_clamp (n := j) (by omega)] <;> rfl]
          refine lv_aload hx hb dL_law_1218 (lv_at hl 4 rfl) ?_
          refine lv_iconst (v := 2) hx hb dL_law_1220 (by decide) ?_
          refine w_ildM hx hb hK hP (List.mem_append_right _ (List.mem_append_left _ (List.mem_of_getElem? (rt_get (by omega))))) rfl 2 rfl (by decide) (by decide) (v := f (21 + 3 * j)) rfl dL_law_1221 ?_
          refine lv_icmp_ge (tgt := 1227) hx hb dL_law_1222 (by decide) (fun c_1222 => ?_) (fun c_1222 => ?_)
          rotate_left
          · exact absurd y5 c_1222
          refine lv_aload hx hb dL_law_1227 (lv_at hl 7 rfl) ?_
          refine lv_iconst (v := 1) hx hb dL_law_1229 (by decide) ?_
          refine w_ildM hx hb hK hP (List.mem_append_left _ (List.mem_of_getElem? (i := 4) rfl)) rfl 1 rfl (by decide) (by decide) (v := (cntF nt f g) 1) rfl dL_law_1230 ?_
          refine lv_bipush (v := 20) hx hb dL_law_1231 (by decide) ?_
          refine lv_icmp_le (tgt := 1259) hx hb dL_law_1233 (by decide) (fun c_1233 => ?_) (fun c_1233 => ?_)
          ·
            refine lv_iconst (v := (-1)) hx hb dL_law_1259 (by decide) ?_
            refine lv_istore (lv' := [(29, .int (-1)), (23, .int ((meltS f f1 j) + (((f (19 + 3 * j)) - (f1 (19 + 3 * j))) - ((f1 (21 + 3 * j)) - (f (21 + 3 * j)))))), (28, .int (((f (19 + 3 * j)) - (f1 (19 + 3 * j))) - ((f1 (21 + 3 * j)) - (f (21 + 3 * j))))), (27, .int (f1 (20 + 3 * j))), (26, .int (f1 (19 + 3 * j))), (25, .ref (r2 j)), (24, .int (nI j)), (19, .int sv), (11, .ref qh), (10, .ref qt), (8, .int (nI nt)), (5, .int (nI time)), (4, .ref wh), (3, .ref mo), (2, .ref (S 0)), (1, .ref x), (0, .ref b)]) hx hb dL_law_1260 hl (by decide) rfl (fun ls hl => ?_)
            refine lv_iload hx hb dL_law_1262 (lv_at hl 4 rfl) ?_
            refine lv_if_le (tgt := 1290) hx hb dL_law_1264 (by decide) (fun c_1264 => ?_) (fun c_1264 => ?_)
            · exact absurd c_1264 c_1182
            refine lv_iload hx hb dL_law_1267 (lv_at hl 3 rfl) ?_
            refine lv_iconst (v := 0) hx hb dL_law_1269 (by decide) ?_
            refine lv_bipush (v := 100) hx hb dL_law_1270 (by decide) ?_
            refine lv_aload hx hb dL_law_1272 (lv_at hl 5 rfl) ?_
            refine lv_iconst (v := 1) hx hb dL_law_1274 (by decide) ?_
            refine w_ildM hx hb hK hP (List.mem_append_right _ (List.mem_append_left _ (List.mem_of_getElem? (rt_get (by omega))))) rfl 1 rfl (by decide) (by decide) (v := f (20 + 3 * j)) rfl dL_law_1275 ?_
            refine lv_iload hx hb dL_law_1276 (lv_at hl 0 rfl) ?_
            refine lv_iadd hx hb dL_law_1278 ?_
            refine w_mmin hx hb (hml.trans hl.1.symm) hown (hts _ mlL_law_28) (hts _ msL_law_min) (hts _ miL_law) (hts _ mcL_law_min) (Nat.le_of_ble_eq_true rfl) (Nat.le_of_ble_eq_true rfl) (by show _ ≤ 600130; omega) (by show _ ≤ 7301080; omega) dL_law_1279 ?_
            refine w_mmax hx hb (hml.trans hl.1.symm) hown (hts _ mlL_law_64) (hts _ msL_law_max) (hts _ miL_law) (hts _ mcL_law_max) (Nat.le_of_ble_eq_true rfl) (Nat.le_of_ble_eq_true rfl) (by show _ ≤ 600130; omega) (by show _ ≤ 7301080; omega) dL_law_1282 ?_
            refine lv_icmp_eq (tgt := 1290) hx hb dL_law_1285 (by decide) (fun c_1285 => ?_) (fun c_1285 => ?_)
            rotate_left
            · exact absurd ((y3 (Int32.not_le.mp c_1182)).2.trans (so_2 (hI.2.2 j (by omega)).2 (Or.inl c_1233))) c_1285
            refine lv_iinc (v := nI (j + 1)) (lv' := [(24, .int (nI (j + 1))), (29, .int (-1)), (23, .int ((meltS f f1 j) + (((f (19 + 3 * j)) - (f1 (19 + 3 * j))) - ((f1 (21 + 3 * j)) - (f (21 + 3 * j)))))), (28, .int (((f (19 + 3 * j)) - (f1 (19 + 3 * j))) - ((f1 (21 + 3 * j)) - (f (21 + 3 * j))))), (27, .int (f1 (20 + 3 * j))), (26, .int (f1 (19 + 3 * j))), (25, .ref (r2 j)), (19, .int sv), (11, .ref qh), (10, .ref qt), (8, .int (nI nt)), (5, .int (nI time)), (4, .ref wh), (3, .ref mo), (2, .ref (S 0)), (1, .ref x), (0, .ref b)]) hx hb dL_law_1290 hl (k := 6) rfl (nI_succ _).symm (by decide) rfl (fun ls hl => ?_)
            refine lv_goto (tgt := 1074) hx hb dL_law_1293 (by decide) ?_
            exact W.widen (by omega) (by omega) (ih (j + 1) (by omega) _ _ hP hD hS _ (lv_sub hl [0, 2, 7, 8, 9, 10, 11, 12, 13, 14, 15, 16] rfl))
          ·
            refine lv_aload hx hb dL_law_1236 (lv_at hl 7 rfl) ?_
            refine lv_iconst (v := 2) hx hb dL_law_1238 (by decide) ?_
            refine w_ildM hx hb hK hP (List.mem_append_left _ (List.mem_of_getElem? (i := 4) rfl)) rfl 2 rfl (by decide) (by decide) (v := (cntF nt f g) 2) rfl dL_law_1239 ?_
            refine lv_bipush (v := 100) hx hb dL_law_1240 (by decide) ?_
            refine lv_icmp_ge (tgt := 1259) hx hb dL_law_1242 (by decide) (fun c_1242 => ?_) (fun c_1242 => ?_)
            ·
              refine lv_iconst (v := (-1)) hx hb dL_law_1259 (by decide) ?_
              refine lv_istore (lv' := [(29, .int (-1)), (23, .int ((meltS f f1 j) + (((f (19 + 3 * j)) - (f1 (19 + 3 * j))) - ((f1 (21 + 3 * j)) - (f (21 + 3 * j)))))), (28, .int (((f (19 + 3 * j)) - (f1 (19 + 3 * j))) - ((f1 (21 + 3 * j)) - (f (21 + 3 * j))))), (27, .int (f1 (20 + 3 * j))), (26, .int (f1 (19 + 3 * j))), (25, .ref (r2 j)), (24, .int (nI j)), (19, .int sv), (11, .ref qh), (10, .ref qt), (8, .int (nI nt)), (5, .int (nI time)), (4, .ref wh), (3, .ref mo), (2, .ref (S 0)), (1, .ref x), (0, .ref b)]) hx hb dL_law_1260 hl (by decide) rfl (fun ls hl => ?_)
              refine lv_iload hx hb dL_law_1262 (lv_at hl 4 rfl) ?_
              refine lv_if_le (tgt := 1290) hx hb dL_law_1264 (by decide) (fun c_1264 => ?_) (fun c_1264 => ?_)
              · exact absurd c_1264 c_1182
              refine lv_iload hx hb dL_law_1267 (lv_at hl 3 rfl) ?_
              refine lv_iconst (v := 0) hx hb dL_law_1269 (by decide) ?_
              refine lv_bipush (v := 100) hx hb dL_law_1270 (by decide) ?_
              refine lv_aload hx hb dL_law_1272 (lv_at hl 5 rfl) ?_
              refine lv_iconst (v := 1) hx hb dL_law_1274 (by decide) ?_
              refine w_ildM hx hb hK hP (List.mem_append_right _ (List.mem_append_left _ (List.mem_of_getElem? (rt_get (by omega))))) rfl 1 rfl (by decide) (by decide) (v := f (20 + 3 * j)) rfl dL_law_1275 ?_
              refine lv_iload hx hb dL_law_1276 (lv_at hl 0 rfl) ?_
              refine lv_iadd hx hb dL_law_1278 ?_
              refine w_mmin hx hb (hml.trans hl.1.symm) hown (hts _ mlL_law_28) (hts _ msL_law_min) (hts _ miL_law) (hts _ mcL_law_min) (Nat.le_of_ble_eq_true rfl) (Nat.le_of_ble_eq_true rfl) (by show _ ≤ 600130; omega) (by show _ ≤ 7301080; omega) dL_law_1279 ?_
              refine w_mmax hx hb (hml.trans hl.1.symm) hown (hts _ mlL_law_64) (hts _ msL_law_max) (hts _ miL_law) (hts _ mcL_law_max) (Nat.le_of_ble_eq_true rfl) (Nat.le_of_ble_eq_true rfl) (by show _ ≤ 600130; omega) (by show _ ≤ 7301080; omega) dL_law_1282 ?_
              refine lv_icmp_eq (tgt := 1290) hx hb dL_law_1285 (by decide) (fun c_1285 => ?_) (fun c_1285 => ?_)
              rotate_left
              · exact absurd ((y3 (Int32.not_le.mp c_1182)).2.trans (so_2 (hI.2.2 j (by omega)).2 (Or.inr c_1242))) c_1285
              refine lv_iinc (v := nI (j + 1)) (lv' := [(24, .int (nI (j + 1))), (29, .int (-1)), (23, .int ((meltS f f1 j) + (((f (19 + 3 * j)) - (f1 (19 + 3 * j))) - ((f1 (21 + 3 * j)) - (f (21 + 3 * j)))))), (28, .int (((f (19 + 3 * j)) - (f1 (19 + 3 * j))) - ((f1 (21 + 3 * j)) - (f (21 + 3 * j))))), (27, .int (f1 (20 + 3 * j))), (26, .int (f1 (19 + 3 * j))), (25, .ref (r2 j)), (19, .int sv), (11, .ref qh), (10, .ref qt), (8, .int (nI nt)), (5, .int (nI time)), (4, .ref wh), (3, .ref mo), (2, .ref (S 0)), (1, .ref x), (0, .ref b)]) hx hb dL_law_1290 hl (k := 6) rfl (nI_succ _).symm (by decide) rfl (fun ls hl => ?_)
              refine lv_goto (tgt := 1074) hx hb dL_law_1293 (by decide) ?_
              exact W.widen (by omega) (by omega) (ih (j + 1) (by omega) _ _ hP hD hS _ (lv_sub hl [0, 2, 7, 8, 9, 10, 11, 12, 13, 14, 15, 16] rfl))
            ·
              refine lv_aload hx hb dL_law_1245 (lv_at hl 7 rfl) ?_
              refine lv_iconst (v := 1) hx hb dL_law_1247 (by decide) ?_
              refine w_ildM hx hb hK hP (List.mem_append_left _ (List.mem_of_getElem? (i := 4) rfl)) rfl 1 rfl (by decide) (by decide) (v := (cntF nt f g) 1) rfl dL_law_1248 ?_
              refine lv_bipush (v := 20) hx hb dL_law_1249 (by decide) ?_
              refine lv_isub hx hb dL_law_1251 ?_
              refine lv_iconst (v := 4) hx hb dL_law_1252 (by decide) ?_
              refine lv_idiv hx hb dL_law_1253 (by decide) ?_
              refine lv_iconst (v := 1) hx hb dL_law_1254 (by decide) ?_
              refine lv_iadd hx hb dL_law_1255 ?_
              refine lv_goto (tgt := 1260) hx hb dL_law_1256 (by decide) ?_
              refine lv_istore (lv' := [(29, .int (((((cntF nt f g) 1) - 20) / 4) + 1)), (23, .int ((meltS f f1 j) + (((f (19 + 3 * j)) - (f1 (19 + 3 * j))) - ((f1 (21 + 3 * j)) - (f (21 + 3 * j)))))), (28, .int (((f (19 + 3 * j)) - (f1 (19 + 3 * j))) - ((f1 (21 + 3 * j)) - (f (21 + 3 * j))))), (27, .int (f1 (20 + 3 * j))), (26, .int (f1 (19 + 3 * j))), (25, .ref (r2 j)), (24, .int (nI j)), (19, .int sv), (11, .ref qh), (10, .ref qt), (8, .int (nI nt)), (5, .int (nI time)), (4, .ref wh), (3, .ref mo), (2, .ref (S 0)), (1, .ref x), (0, .ref b)]) hx hb dL_law_1260 hl (by decide) rfl (fun ls hl => ?_)
              refine lv_iload hx hb dL_law_1262 (lv_at hl 4 rfl) ?_
              refine lv_if_le (tgt := 1290) hx hb dL_law_1264 (by decide) (fun c_1264 => ?_) (fun c_1264 => ?_)
              · exact absurd c_1264 c_1182
              refine lv_iload hx hb dL_law_1267 (lv_at hl 3 rfl) ?_
              refine lv_iconst (v := 0) hx hb dL_law_1269 (by decide) ?_
              refine lv_bipush (v := 100) hx hb dL_law_1270 (by decide) ?_
              refine lv_aload hx hb dL_law_1272 (lv_at hl 5 rfl) ?_
              refine lv_iconst (v := 1) hx hb dL_law_1274 (by decide) ?_
              refine w_ildM hx hb hK hP (List.mem_append_right _ (List.mem_append_left _ (List.mem_of_getElem? (rt_get (by omega))))) rfl 1 rfl (by decide) (by decide) (v := f (20 + 3 * j)) rfl dL_law_1275 ?_
              refine lv_iload hx hb dL_law_1276 (lv_at hl 0 rfl) ?_
              refine lv_iadd hx hb dL_law_1278 ?_
              refine w_mmin hx hb (hml.trans hl.1.symm) hown (hts _ mlL_law_28) (hts _ msL_law_min) (hts _ miL_law) (hts _ mcL_law_min) (Nat.le_of_ble_eq_true rfl) (Nat.le_of_ble_eq_true rfl) (by show _ ≤ 600130; omega) (by show _ ≤ 7301080; omega) dL_law_1279 ?_
              refine w_mmax hx hb (hml.trans hl.1.symm) hown (hts _ mlL_law_64) (hts _ msL_law_max) (hts _ miL_law) (hts _ mcL_law_max) (Nat.le_of_ble_eq_true rfl) (Nat.le_of_ble_eq_true rfl) (by show _ ≤ 600130; omega) (by show _ ≤ 7301080; omega) dL_law_1282 ?_
              refine lv_icmp_eq (tgt := 1290) hx hb dL_law_1285 (by decide) (fun c_1285 => ?_) (fun c_1285 => ?_)
              rotate_left
              · exact absurd ((y3 (Int32.not_le.mp c_1182)).2.trans (so_1 (n := 0) (hI.2.2 j (by omega)).2 (hg (hrN f / 24 % 7) (Nat.mod_lt _ (by decide))) c_1233 c_1242)) c_1285
              refine lv_iinc (v := nI (j + 1)) (lv' := [(24, .int (nI (j + 1))), (29, .int (((((cntF nt f g) 1) - 20) / 4) + 1)), (23, .int ((meltS f f1 j) + (((f (19 + 3 * j)) - (f1 (19 + 3 * j))) - ((f1 (21 + 3 * j)) - (f (21 + 3 * j)))))), (28, .int (((f (19 + 3 * j)) - (f1 (19 + 3 * j))) - ((f1 (21 + 3 * j)) - (f (21 + 3 * j))))), (27, .int (f1 (20 + 3 * j))), (26, .int (f1 (19 + 3 * j))), (25, .ref (r2 j)), (19, .int sv), (11, .ref qh), (10, .ref qt), (8, .int (nI nt)), (5, .int (nI time)), (4, .ref wh), (3, .ref mo), (2, .ref (S 0)), (1, .ref x), (0, .ref b)]) hx hb dL_law_1290 hl (k := 6) rfl (nI_succ _).symm (by decide) rfl (fun ls hl => ?_)
              refine lv_goto (tgt := 1074) hx hb dL_law_1293 (by decide) ?_
              exact W.widen (by omega) (by omega) (ih (j + 1) (by omega) _ _ hP hD hS _ (lv_sub hl [0, 2, 7, 8, 9, 10, 11, 12, 13, 14, 15, 16] rfl))
      ·
        refine lv_iload hx hb dL_law_1175 (lv_at hl 2 rfl) ?_
        refine lv_if_ne (tgt := 1225) hx hb dL_law_1177 (by decide) (fun c_1177 => ?_) (fun c_1177 => ?_)
        · exact absurd (y4 c_1172) c_1177
        refine lv_iload hx hb dL_law_1180 (lv_at hl 3 rfl) ?_
        refine lv_if_le (tgt := 1211) hx hb dL_law_1182 (by decide) (fun c_1182 => ?_) (fun c_1182 => ?_)
        rotate_left
        · exact absurd (by rw [c_1172]; decide) c_1182
        refine lv_aload_n hx hb dL_law_1211 rfl (lv_at hl 14 rfl) ?_
        refine lv_iload hx hb dL_law_1212 (lv_at hl 5 rfl) ?_
        refine lv_iconst (v := 2) hx hb dL_law_1214 (by decide) ?_
        refine c1_V0 (xe_no (k_told (n := nt) (i := j) (w := 2) (by omega) (by omega) (by decide))) (As := [.int (nI j), .int 2]) (rest := []) (ws' := ([(mo, .inl (cI, 6, .inl mostA)), (wh, .inl (cI, 5, .inl (fun i => nI (wN i)))), (qc, .inl (cL, nc, .inr (.inr (.inr (.inr (fun i => some (r i))))))), (qt, .inl (cL, nt, .inr (.inr (.inr (.inr (fun i => some (r2 i))))))), (qh, .inl (cI, 10, .inl (cntF nt f g))), (qn, .inl (cI, 10, .inl th)), (qd, .inl (cI, nc, .inl dn))] : va_W) ++ (RT cI r2 f nt ++ (RC cI r f nc ++ ((YW cI cC cT x A (B 0) nc nt f1 g ++ CW cI cC cT B nc2 nt2 f2 g2) ++ (SM cI cL S C T nc nt f1 g))))) ⟨hx, hb, hml, hown, hts⟩ (mX3_about l D cI cC cT cL hl0 x (B 0) A nc nt f1 g (nI j) 2 hnt) (cwV 2 hts gL_law_X3_about rfl rfl rfl pX3_about ⟨by decide, by decide⟩) hK hP hD hS hA hST ((Jf_r _ (Jf_r _ (Jf_r _ (Jf_l _ (Jf_hd _ _ _ yw_fst)))))).1 ((Jf_r _ (Jf_r _ (Jf_r _ (Jf_l _ (Jf_hd _ _ _ yw_fst)))))).1 0 rfl rfl rfl rfl hl.1 rfl (Nat.le_of_ble_eq_true rfl) dL_law_1215 ⟨(by show _ ≤ 600130; omega), (by show _ ≤ 7301080; omega)⟩ rfl (fun H locs hP hD hS => ?_)
        rw [show pick3 (2 : Int32).toNatClampNeg (f1 (19 + 3 * (nI j).toNatClampNeg)) (f1 (20 + 3 * (nI j).toNatClampNeg)) (f1 (21 + 3 * (nI j).toNatClampNeg)) = f1 (21 + 3 * j) by rw [nI_clamp (n := j) (by omega)] <;> rfl]
        refine lv_aload hx hb dL_law_1218 (lv_at hl 4 rfl) ?_
        refine lv_iconst (v := 2) hx hb dL_law_1220 (by decide) ?_
        refine w_ildM hx hb hK hP (List.mem_append_right _ (List.mem_append_left _ (List.mem_of_getElem? (rt_get (by omega))))) rfl 2 rfl (by decide) (by decide) (v := f (21 + 3 * j)) rfl dL_law_1221 ?_
        refine lv_icmp_ge (tgt := 1227) hx hb dL_law_1222 (by decide) (fun c_1222 => ?_) (fun c_1222 => ?_)
        rotate_left
        · exact absurd y5 c_1222
        refine lv_aload hx hb dL_law_1227 (lv_at hl 7 rfl) ?_
        refine lv_iconst (v := 1) hx hb dL_law_1229 (by decide) ?_
        refine w_ildM hx hb hK hP (List.mem_append_left _ (List.mem_of_getElem? (i := 4) rfl)) rfl 1 rfl (by decide) (by decide) (v := (cntF nt f g) 1) rfl dL_law_1230 ?_
        refine lv_bipush (v := 20) hx hb dL_law_1231 (by decide) ?_
        refine lv_icmp_le (tgt := 1259) hx hb dL_law_1233 (by decide) (fun c_1233 => ?_) (fun c_1233 => ?_)
        ·
          refine lv_iconst (v := (-1)) hx hb dL_law_1259 (by decide) ?_
          refine lv_istore (lv' := [(29, .int (-1)), (23, .int ((meltS f f1 j) + (((f (19 + 3 * j)) - (f1 (19 + 3 * j))) - ((f1 (21 + 3 * j)) - (f (21 + 3 * j)))))), (28, .int (((f (19 + 3 * j)) - (f1 (19 + 3 * j))) - ((f1 (21 + 3 * j)) - (f (21 + 3 * j))))), (27, .int (f1 (20 + 3 * j))), (26, .int (f1 (19 + 3 * j))), (25, .ref (r2 j)), (24, .int (nI j)), (19, .int sv), (11, .ref qh), (10, .ref qt), (8, .int (nI nt)), (5, .int (nI time)), (4, .ref wh), (3, .ref mo), (2, .ref (S 0)), (1, .ref x), (0, .ref b)]) hx hb dL_law_1260 hl (by decide) rfl (fun ls hl => ?_)
          refine lv_iload hx hb dL_law_1262 (lv_at hl 4 rfl) ?_
          refine lv_if_le (tgt := 1290) hx hb dL_law_1264 (by decide) (fun c_1264 => ?_) (fun c_1264 => ?_)
          rotate_left
          · exact absurd (by rw [c_1172]; decide) c_1264
          refine lv_iinc (v := nI (j + 1)) (lv' := [(24, .int (nI (j + 1))), (29, .int (-1)), (23, .int ((meltS f f1 j) + (((f (19 + 3 * j)) - (f1 (19 + 3 * j))) - ((f1 (21 + 3 * j)) - (f (21 + 3 * j)))))), (28, .int (((f (19 + 3 * j)) - (f1 (19 + 3 * j))) - ((f1 (21 + 3 * j)) - (f (21 + 3 * j))))), (27, .int (f1 (20 + 3 * j))), (26, .int (f1 (19 + 3 * j))), (25, .ref (r2 j)), (19, .int sv), (11, .ref qh), (10, .ref qt), (8, .int (nI nt)), (5, .int (nI time)), (4, .ref wh), (3, .ref mo), (2, .ref (S 0)), (1, .ref x), (0, .ref b)]) hx hb dL_law_1290 hl (k := 6) rfl (nI_succ _).symm (by decide) rfl (fun ls hl => ?_)
          refine lv_goto (tgt := 1074) hx hb dL_law_1293 (by decide) ?_
          exact W.widen (by omega) (by omega) (ih (j + 1) (by omega) _ _ hP hD hS _ (lv_sub hl [0, 2, 7, 8, 9, 10, 11, 12, 13, 14, 15, 16] rfl))
        ·
          refine lv_aload hx hb dL_law_1236 (lv_at hl 7 rfl) ?_
          refine lv_iconst (v := 2) hx hb dL_law_1238 (by decide) ?_
          refine w_ildM hx hb hK hP (List.mem_append_left _ (List.mem_of_getElem? (i := 4) rfl)) rfl 2 rfl (by decide) (by decide) (v := (cntF nt f g) 2) rfl dL_law_1239 ?_
          refine lv_bipush (v := 100) hx hb dL_law_1240 (by decide) ?_
          refine lv_icmp_ge (tgt := 1259) hx hb dL_law_1242 (by decide) (fun c_1242 => ?_) (fun c_1242 => ?_)
          ·
            refine lv_iconst (v := (-1)) hx hb dL_law_1259 (by decide) ?_
            refine lv_istore (lv' := [(29, .int (-1)), (23, .int ((meltS f f1 j) + (((f (19 + 3 * j)) - (f1 (19 + 3 * j))) - ((f1 (21 + 3 * j)) - (f (21 + 3 * j)))))), (28, .int (((f (19 + 3 * j)) - (f1 (19 + 3 * j))) - ((f1 (21 + 3 * j)) - (f (21 + 3 * j))))), (27, .int (f1 (20 + 3 * j))), (26, .int (f1 (19 + 3 * j))), (25, .ref (r2 j)), (24, .int (nI j)), (19, .int sv), (11, .ref qh), (10, .ref qt), (8, .int (nI nt)), (5, .int (nI time)), (4, .ref wh), (3, .ref mo), (2, .ref (S 0)), (1, .ref x), (0, .ref b)]) hx hb dL_law_1260 hl (by decide) rfl (fun ls hl => ?_)
            refine lv_iload hx hb dL_law_1262 (lv_at hl 4 rfl) ?_
            refine lv_if_le (tgt := 1290) hx hb dL_law_1264 (by decide) (fun c_1264 => ?_) (fun c_1264 => ?_)
            rotate_left
            · exact absurd (by rw [c_1172]; decide) c_1264
            refine lv_iinc (v := nI (j + 1)) (lv' := [(24, .int (nI (j + 1))), (29, .int (-1)), (23, .int ((meltS f f1 j) + (((f (19 + 3 * j)) - (f1 (19 + 3 * j))) - ((f1 (21 + 3 * j)) - (f (21 + 3 * j)))))), (28, .int (((f (19 + 3 * j)) - (f1 (19 + 3 * j))) - ((f1 (21 + 3 * j)) - (f (21 + 3 * j))))), (27, .int (f1 (20 + 3 * j))), (26, .int (f1 (19 + 3 * j))), (25, .ref (r2 j)), (19, .int sv), (11, .ref qh), (10, .ref qt), (8, .int (nI nt)), (5, .int (nI time)), (4, .ref wh), (3, .ref mo), (2, .ref (S 0)), (1, .ref x), (0, .ref b)]) hx hb dL_law_1290 hl (k := 6) rfl (nI_succ _).symm (by decide) rfl (fun ls hl => ?_)
            refine lv_goto (tgt := 1074) hx hb dL_law_1293 (by decide) ?_
            exact W.widen (by omega) (by omega) (ih (j + 1) (by omega) _ _ hP hD hS _ (lv_sub hl [0, 2, 7, 8, 9, 10, 11, 12, 13, 14, 15, 16] rfl))
          ·
            refine lv_aload hx hb dL_law_1245 (lv_at hl 7 rfl) ?_
            refine lv_iconst (v := 1) hx hb dL_law_1247 (by decide) ?_
            refine w_ildM hx hb hK hP (List.mem_append_left _ (List.mem_of_getElem? (i := 4) rfl)) rfl 1 rfl (by decide) (by decide) (v := (cntF nt f g) 1) rfl dL_law_1248 ?_
            refine lv_bipush (v := 20) hx hb dL_law_1249 (by decide) ?_
            refine lv_isub hx hb dL_law_1251 ?_
            refine lv_iconst (v := 4) hx hb dL_law_1252 (by decide) ?_
            refine lv_idiv hx hb dL_law_1253 (by decide) ?_
            refine lv_iconst (v := 1) hx hb dL_law_1254 (by decide) ?_
            refine lv_iadd hx hb dL_law_1255 ?_
            refine lv_goto (tgt := 1260) hx hb dL_law_1256 (by decide) ?_
            refine lv_istore (lv' := [(29, .int (((((cntF nt f g) 1) - 20) / 4) + 1)), (23, .int ((meltS f f1 j) + (((f (19 + 3 * j)) - (f1 (19 + 3 * j))) - ((f1 (21 + 3 * j)) - (f (21 + 3 * j)))))), (28, .int (((f (19 + 3 * j)) - (f1 (19 + 3 * j))) - ((f1 (21 + 3 * j)) - (f (21 + 3 * j))))), (27, .int (f1 (20 + 3 * j))), (26, .int (f1 (19 + 3 * j))), (25, .ref (r2 j)), (24, .int (nI j)), (19, .int sv), (11, .ref qh), (10, .ref qt), (8, .int (nI nt)), (5, .int (nI time)), (4, .ref wh), (3, .ref mo), (2, .ref (S 0)), (1, .ref x), (0, .ref b)]) hx hb dL_law_1260 hl (by decide) rfl (fun ls hl => ?_)
            refine lv_iload hx hb dL_law_1262 (lv_at hl 4 rfl) ?_
            refine lv_if_le (tgt := 1290) hx hb dL_law_1264 (by decide) (fun c_1264 => ?_) (fun c_1264 => ?_)
            rotate_left
            · exact absurd (by rw [c_1172]; decide) c_1264
            refine lv_iinc (v := nI (j + 1)) (lv' := [(24, .int (nI (j + 1))), (29, .int (((((cntF nt f g) 1) - 20) / 4) + 1)), (23, .int ((meltS f f1 j) + (((f (19 + 3 * j)) - (f1 (19 + 3 * j))) - ((f1 (21 + 3 * j)) - (f (21 + 3 * j)))))), (28, .int (((f (19 + 3 * j)) - (f1 (19 + 3 * j))) - ((f1 (21 + 3 * j)) - (f (21 + 3 * j))))), (27, .int (f1 (20 + 3 * j))), (26, .int (f1 (19 + 3 * j))), (25, .ref (r2 j)), (19, .int sv), (11, .ref qh), (10, .ref qt), (8, .int (nI nt)), (5, .int (nI time)), (4, .ref wh), (3, .ref mo), (2, .ref (S 0)), (1, .ref x), (0, .ref b)]) hx hb dL_law_1290 hl (k := 6) rfl (nI_succ _).symm (by decide) rfl (fun ls hl => ?_)
            refine lv_goto (tgt := 1074) hx hb dL_law_1293 (by decide) ?_
            exact W.widen (by omega) (by omega) (ih (j + 1) (by omega) _ _ hP hD hS _ (lv_sub hl [0, 2, 7, 8, 9, 10, 11, 12, 13, 14, 15, 16] rfl))
  exact W.widen (by omega) (by omega) (lp0 nt 0 (by omega) _ _ hP hD hS _ (lv_sub hl [0, 1, 2, 3, 4, 5, 6, 7, 8, 9, 10, 11] rfl))
