set_option maxHeartbeats 4000000 in
set_option maxRecDepth 100000 in
theorem law_2 {p : Program} {l : Launch} {e : Env} {s : State} {m : MethodId} {args : Array Value} {below : List Frame} {meth : Method} {c : Code} {Q : State → Prop} {A0 : Nat → Prop} {b L : Nat} {xs : Nat → Int32} {D : va_G} {cI cC cT cL : ClassId} {x mo wh : Nat} {A B : Nat → Nat} {time cE sE cells slots : Nat} {S C T : Nat → Nat} {nc nt h : Nat} {f g : Nat → Int32} {nc2 nt2 : Nat} {f2 g2 : Nat → Int32} {H : Heap} {locs : List Loc} {ls : Array Slot} (EL : LE p l s m args c A0 b L xs D cI cC cT cL) (ht : time < 60) (hh : h ≤ 60 + time) (G : GS2 nc nt f g h) (hcE : cE ≤ 600130) (hsE : sE ≤ 7301080) (hcl : cells + 202 ≤ cE) (hsl : slots + 1184 ≤ sE) (K : LK p l e s m args below meth c Q A0 b D cI cC cT cL x mo wh A B (time + 1) cE sE) (hP : va_P D vwCl (([(mo, .inl (cI, 6, .inl mostA)), (wh, .inl (cI, 5, .inl (fun i => nI (wN i))))] : va_W) ++ ((YW cI cC cT x A (B 0) nc nt f g ++ CW cI cC cT B nc2 nt2 f2 g2) ++ (SM cI cL S C T nc nt f g))) H) (hD : va_D A0 (([(mo, .inl (cI, 6, .inl mostA)), (wh, .inl (cI, 5, .inl (fun i => nI (wN i))))] : va_W) ++ ((YW cI cC cT x A (B 0) nc nt f g ++ CW cI cC cT B nc2 nt2 f2 g2) ++ (SM cI cL S C T nc nt f g)))) (hS : va_S A0 s.heap H locs) (hl : lv_has ls 30 [(5, .int (nI time)), (4, .ref wh), (3, .ref mo), (2, .ref (S 0)), (1, .ref x), (0, .ref b)]) : W p l e room_1 s m args below meth c H locs cells slots Q (F0 m 144 ls []) := by
  obtain ⟨hx, hb, hml, hown, hts, hK, hST, hX, hbl, hbA, hA, hl0, hN⟩ := id EL
  have hAA : va_AOA .int s := hST.2.2.2.2.2.2.2.2.2.1
  obtain ⟨⟨hnc, hnt, hI, hg, h0⟩, hz, hxc, hxt⟩ := id G
  refine lv_aload_n hx hb dL_law_144 rfl (lv_at hl 3 rfl) ?_
  refine w_getM hx hb hts iL_law_X4 hown hK hP (List.mem_append_right _ (List.mem_append_right _ (sm_b 0 rfl))) rfl 5 (by decide) fL_law_9 rfl rfl (v := .ref (S 3)) dL_law_145 ?_
  refine w_alenA hx hb hK hP (List.mem_append_right _ (List.mem_append_right _ (sm_b 3 rfl))) rfl dL_law_148 ?_
  refine lv_istore (lv' := [(7, .int (nI nc)), (5, .int (nI time)), (4, .ref wh), (3, .ref mo), (2, .ref (S 0)), (1, .ref x), (0, .ref b)]) hx hb dL_law_149 hl (by decide) rfl (fun ls hl => ?_)
  refine lv_aload_n hx hb dL_law_151 rfl (lv_at hl 4 rfl) ?_
  refine w_getM hx hb hts iL_law_X4 hown hK hP (List.mem_append_right _ (List.mem_append_right _ (sm_b 0 rfl))) rfl 6 (by decide) fL_law_21 rfl rfl (v := .ref (S 4)) dL_law_152 ?_
  refine w_alenA hx hb hK hP (List.mem_append_right _ (List.mem_append_right _ (sm_b 4 rfl))) rfl dL_law_155 ?_
  refine lv_istore (lv' := [(8, .int (nI nt)), (7, .int (nI nc)), (5, .int (nI time)), (4, .ref wh), (3, .ref mo), (2, .ref (S 0)), (1, .ref x), (0, .ref b)]) hx hb dL_law_156 hl (by decide) rfl (fun ls hl => ?_)
  refine lv_iload hx hb dL_law_158 (lv_at hl 1 rfl) ?_
  refine lv_iconst (v := 3) hx hb dL_law_160 (by decide) ?_
  refine w_mna (n := nc) hx hb hown (hts _ clL_law_90) hAA (hts _ acL_law_int) hK hP hD hS hA rfl rfl rfl (by omega) (by show _ ≤ 600130; omega) (by show _ ≤ 7301080; omega) dL_law_161 (fun q1 r H hP hD hS => ?_)
  rw [rc_z] at hP hD
  have pm := pm_mna (([(mo, .inl (cI, 6, .inl mostA)), (wh, .inl (cI, 5, .inl (fun i => nI (wN i))))] : va_W)) ((YW cI cC cT x A (B 0) nc nt f g ++ CW cI cC cT B nc2 nt2 f2 g2) ++ (SM cI cL S C T nc nt f g)) (RC cI r (fun _ => 0) nc) ((q1, .inl (cL, nc, .inr (.inr (.inr (.inr (fun i => some (r i))))))))
  have hP : va_P D vwCl (([(mo, .inl (cI, 6, .inl mostA)), (wh, .inl (cI, 5, .inl (fun i => nI (wN i)))), (q1, .inl (cL, nc, .inr (.inr (.inr (.inr (fun i => some (r i)))))))] : va_W) ++ (RC cI r (fun _ => 0) nc ++ ((YW cI cC cT x A (B 0) nc nt f g ++ CW cI cC cT B nc2 nt2 f2 g2) ++ (SM cI cL S C T nc nt f g)))) H := P_pm pm hP
  have hD : va_D A0 (([(mo, .inl (cI, 6, .inl mostA)), (wh, .inl (cI, 5, .inl (fun i => nI (wN i)))), (q1, .inl (cL, nc, .inr (.inr (.inr (.inr (fun i => some (r i)))))))] : va_W) ++ (RC cI r (fun _ => 0) nc ++ ((YW cI cC cT x A (B 0) nc nt f g ++ CW cI cC cT B nc2 nt2 f2 g2) ++ (SM cI cL S C T nc nt f g)))) := D_pm pm hD
  refine lv_astore (lv' := [(9, .ref q1), (8, .int (nI nt)), (7, .int (nI nc)), (5, .int (nI time)), (4, .ref wh), (3, .ref mo), (2, .ref (S 0)), (1, .ref x), (0, .ref b)]) hx hb dL_law_165 hl (by decide) rfl (fun ls hl => ?_)
  refine lv_iconst (v := 0) hx hb dL_law_167 (by decide) ?_
  refine lv_istore (lv' := [(10, .int 0), (9, .ref q1), (8, .int (nI nt)), (7, .int (nI nc)), (5, .int (nI time)), (4, .ref wh), (3, .ref mo), (2, .ref (S 0)), (1, .ref x), (0, .ref b)]) hx hb dL_law_168 hl (by decide) rfl (fun ls hl => ?_)
  have lp0 : ∀ (n j : Nat), j + n = nc → ∀ (F : Nat → Int32), (∀ i, i < j → F (7 + 3 * i) = f (7 + 3 * i) ∧ F (8 + 3 * i) = f (8 + 3 * i) ∧ F (9 + 3 * i) = f (9 + 3 * i)) → ∀ (H : Heap) (locs : List Loc), va_P D vwCl (([(mo, .inl (cI, 6, .inl mostA)), (wh, .inl (cI, 5, .inl (fun i => nI (wN i)))), (q1, .inl (cL, nc, .inr (.inr (.inr (.inr (fun i => some (r i)))))))] : va_W) ++ (RC cI r F nc ++ ((YW cI cC cT x A (B 0) nc nt f g ++ CW cI cC cT B nc2 nt2 f2 g2) ++ (SM cI cL S C T nc nt f g)))) H → va_D A0 (([(mo, .inl (cI, 6, .inl mostA)), (wh, .inl (cI, 5, .inl (fun i => nI (wN i)))), (q1, .inl (cL, nc, .inr (.inr (.inr (.inr (fun i => some (r i)))))))] : va_W) ++ (RC cI r F nc ++ ((YW cI cC cT x A (B 0) nc nt f g ++ CW cI cC cT B nc2 nt2 f2 g2) ++ (SM cI cL S C T nc nt f g)))) → va_S A0 s.heap H locs → ∀ ls, lv_has ls 30 [(10, .int (nI j)), (9, .ref q1), (8, .int (nI nt)), (7, .int (nI nc)), (5, .int (nI time)), (4, .ref wh), (3, .ref mo), (2, .ref (S 0)), (1, .ref x), (0, .ref b)] → W p l e room_1 s m args below meth c H locs (cells + 5 + 6 * j) (slots + 16 + 36 * j) Q (F0 m 170 ls []) := by
    intro n
    induction n with
    | zero =>
      intro j hj F hF H locs hP hD hS ls hl
      have hje : nc = j := by omega
      subst hje
      refine lv_iload hx hb dL_law_170 (lv_at hl 0 rfl) ?_
      refine lv_iload hx hb dL_law_172 (lv_at hl 3 rfl) ?_
      refine lv_icmp_ge (tgt := 214) hx hb dL_law_174 (by decide) (fun c_174 => ?_) (fun c_174 => ?_)
      rotate_left
      · exact absurd (Int32.le_refl _) c_174
      have eT := rc_cg (cI := cI) (C := r) (C' := r) (f := F) (f' := f) (n := nc) (fun i hi => ⟨rfl, hF i hi⟩)
      have hP : va_P D vwCl (([(mo, .inl (cI, 6, .inl mostA)), (wh, .inl (cI, 5, .inl (fun i => nI (wN i)))), (q1, .inl (cL, nc, .inr (.inr (.inr (.inr (fun i => some (r i)))))))] : va_W) ++ (RC cI r f nc ++ ((YW cI cC cT x A (B 0) nc nt f g ++ CW cI cC cT B nc2 nt2 f2 g2) ++ (SM cI cL S C T nc nt f g)))) H := P_eq (congrArg (fun w9 => ([(mo, .inl (cI, 6, .inl mostA)), (wh, .inl (cI, 5, .inl (fun i => nI (wN i)))), (q1, .inl (cL, nc, .inr (.inr (.inr (.inr (fun i => some (r i)))))))] : va_W) ++ (w9 ++ ((YW cI cC cT x A (B 0) nc nt f g ++ CW cI cC cT B nc2 nt2 f2 g2) ++ (SM cI cL S C T nc nt f g)))) eT) hP
      have hD : va_D A0 (([(mo, .inl (cI, 6, .inl mostA)), (wh, .inl (cI, 5, .inl (fun i => nI (wN i)))), (q1, .inl (cL, nc, .inr (.inr (.inr (.inr (fun i => some (r i)))))))] : va_W) ++ (RC cI r f nc ++ ((YW cI cC cT x A (B 0) nc nt f g ++ CW cI cC cT B nc2 nt2 f2 g2) ++ (SM cI cL S C T nc nt f g)))) := D_eq (congrArg (fun w9 => ([(mo, .inl (cI, 6, .inl mostA)), (wh, .inl (cI, 5, .inl (fun i => nI (wN i)))), (q1, .inl (cL, nc, .inr (.inr (.inr (.inr (fun i => some (r i)))))))] : va_W) ++ (w9 ++ ((YW cI cC cT x A (B 0) nc nt f g ++ CW cI cC cT B nc2 nt2 f2 g2) ++ (SM cI cL S C T nc nt f g)))) eT) hD
      refine lv_iload hx hb dL_law_214 (lv_at hl 2 rfl) ?_
      refine lv_iconst (v := 3) hx hb dL_law_216 (by decide) ?_
      refine w_mna (n := nt) hx hb hown (hts _ clL_law_90) hAA (hts _ acL_law_int) hK hP hD hS hA rfl rfl rfl (by omega) (by show _ ≤ 600130; omega) (by show _ ≤ 7301080; omega) dL_law_217 (fun q2 r2 H hP hD hS => ?_)
      rw [rt_z] at hP hD
      have pm := pm_mna (([(mo, .inl (cI, 6, .inl mostA)), (wh, .inl (cI, 5, .inl (fun i => nI (wN i)))), (q1, .inl (cL, nc, .inr (.inr (.inr (.inr (fun i => some (r i)))))))] : va_W)) (RC cI r f nc ++ ((YW cI cC cT x A (B 0) nc nt f g ++ CW cI cC cT B nc2 nt2 f2 g2) ++ (SM cI cL S C T nc nt f g))) (RT cI r2 (fun _ => 0) nt) ((q2, .inl (cL, nt, .inr (.inr (.inr (.inr (fun i => some (r2 i))))))))
      have hP : va_P D vwCl (([(mo, .inl (cI, 6, .inl mostA)), (wh, .inl (cI, 5, .inl (fun i => nI (wN i)))), (q1, .inl (cL, nc, .inr (.inr (.inr (.inr (fun i => some (r i))))))), (q2, .inl (cL, nt, .inr (.inr (.inr (.inr (fun i => some (r2 i)))))))] : va_W) ++ (RT cI r2 (fun _ => 0) nt ++ (RC cI r f nc ++ ((YW cI cC cT x A (B 0) nc nt f g ++ CW cI cC cT B nc2 nt2 f2 g2) ++ (SM cI cL S C T nc nt f g))))) H := P_pm pm hP
      have hD : va_D A0 (([(mo, .inl (cI, 6, .inl mostA)), (wh, .inl (cI, 5, .inl (fun i => nI (wN i)))), (q1, .inl (cL, nc, .inr (.inr (.inr (.inr (fun i => some (r i))))))), (q2, .inl (cL, nt, .inr (.inr (.inr (.inr (fun i => some (r2 i)))))))] : va_W) ++ (RT cI r2 (fun _ => 0) nt ++ (RC cI r f nc ++ ((YW cI cC cT x A (B 0) nc nt f g ++ CW cI cC cT B nc2 nt2 f2 g2) ++ (SM cI cL S C T nc nt f g))))) := D_pm pm hD
      refine lv_astore (lv' := [(10, .ref q2), (9, .ref q1), (8, .int (nI nt)), (7, .int (nI nc)), (5, .int (nI time)), (4, .ref wh), (3, .ref mo), (2, .ref (S 0)), (1, .ref x), (0, .ref b)]) hx hb dL_law_221 hl (by decide) rfl (fun ls hl => ?_)
      refine lv_iconst (v := 0) hx hb dL_law_223 (by decide) ?_
      refine lv_istore (lv' := [(11, .int 0), (10, .ref q2), (9, .ref q1), (8, .int (nI nt)), (7, .int (nI nc)), (5, .int (nI time)), (4, .ref wh), (3, .ref mo), (2, .ref (S 0)), (1, .ref x), (0, .ref b)]) hx hb dL_law_224 hl (by decide) rfl (fun ls hl => ?_)
      have lp1 : ∀ (n j : Nat), j + n = nt → ∀ (F : Nat → Int32), (∀ i, i < j → F (19 + 3 * i) = f (19 + 3 * i) ∧ F (20 + 3 * i) = f (20 + 3 * i) ∧ F (21 + 3 * i) = f (21 + 3 * i)) → ∀ (H : Heap) (locs : List Loc), va_P D vwCl (([(mo, .inl (cI, 6, .inl mostA)), (wh, .inl (cI, 5, .inl (fun i => nI (wN i)))), (q1, .inl (cL, nc, .inr (.inr (.inr (.inr (fun i => some (r i))))))), (q2, .inl (cL, nt, .inr (.inr (.inr (.inr (fun i => some (r2 i)))))))] : va_W) ++ (RT cI r2 F nt ++ (RC cI r f nc ++ ((YW cI cC cT x A (B 0) nc nt f g ++ CW cI cC cT B nc2 nt2 f2 g2) ++ (SM cI cL S C T nc nt f g))))) H → va_D A0 (([(mo, .inl (cI, 6, .inl mostA)), (wh, .inl (cI, 5, .inl (fun i => nI (wN i)))), (q1, .inl (cL, nc, .inr (.inr (.inr (.inr (fun i => some (r i))))))), (q2, .inl (cL, nt, .inr (.inr (.inr (.inr (fun i => some (r2 i)))))))] : va_W) ++ (RT cI r2 F nt ++ (RC cI r f nc ++ ((YW cI cC cT x A (B 0) nc nt f g ++ CW cI cC cT B nc2 nt2 f2 g2) ++ (SM cI cL S C T nc nt f g))))) → va_S A0 s.heap H locs → ∀ ls, lv_has ls 30 [(11, .int (nI j)), (10, .ref q2), (9, .ref q1), (8, .int (nI nt)), (7, .int (nI nc)), (5, .int (nI time)), (4, .ref wh), (3, .ref mo), (2, .ref (S 0)), (1, .ref x), (0, .ref b)] → W p l e room_1 s m args below meth c H locs (cells + 40 + 6 * j) (slots + 220 + 36 * j) Q (F0 m 226 ls []) := by
        intro n
        induction n with
        | zero =>
          intro j hj F hF H locs hP hD hS ls hl
          have hje : nt = j := by omega
          subst hje
          refine lv_iload hx hb dL_law_226 (lv_at hl 0 rfl) ?_
          refine lv_iload hx hb dL_law_228 (lv_at hl 3 rfl) ?_
          refine lv_icmp_ge (tgt := 270) hx hb dL_law_230 (by decide) (fun c_230 => ?_) (fun c_230 => ?_)
          rotate_left
          · exact absurd (Int32.le_refl _) c_230
          have eT := rt_cg (cI := cI) (C := r2) (C' := r2) (f := F) (f' := f) (n := nt) (fun i hi => ⟨rfl, hF i hi⟩)
          have hP : va_P D vwCl (([(mo, .inl (cI, 6, .inl mostA)), (wh, .inl (cI, 5, .inl (fun i => nI (wN i)))), (q1, .inl (cL, nc, .inr (.inr (.inr (.inr (fun i => some (r i))))))), (q2, .inl (cL, nt, .inr (.inr (.inr (.inr (fun i => some (r2 i)))))))] : va_W) ++ (RT cI r2 f nt ++ (RC cI r f nc ++ ((YW cI cC cT x A (B 0) nc nt f g ++ CW cI cC cT B nc2 nt2 f2 g2) ++ (SM cI cL S C T nc nt f g))))) H := P_eq (congrArg (fun w9 => ([(mo, .inl (cI, 6, .inl mostA)), (wh, .inl (cI, 5, .inl (fun i => nI (wN i)))), (q1, .inl (cL, nc, .inr (.inr (.inr (.inr (fun i => some (r i))))))), (q2, .inl (cL, nt, .inr (.inr (.inr (.inr (fun i => some (r2 i)))))))] : va_W) ++ (w9 ++ (RC cI r f nc ++ ((YW cI cC cT x A (B 0) nc nt f g ++ CW cI cC cT B nc2 nt2 f2 g2) ++ (SM cI cL S C T nc nt f g))))) eT) hP
          have hD : va_D A0 (([(mo, .inl (cI, 6, .inl mostA)), (wh, .inl (cI, 5, .inl (fun i => nI (wN i)))), (q1, .inl (cL, nc, .inr (.inr (.inr (.inr (fun i => some (r i))))))), (q2, .inl (cL, nt, .inr (.inr (.inr (.inr (fun i => some (r2 i)))))))] : va_W) ++ (RT cI r2 f nt ++ (RC cI r f nc ++ ((YW cI cC cT x A (B 0) nc nt f g ++ CW cI cC cT B nc2 nt2 f2 g2) ++ (SM cI cL S C T nc nt f g))))) := D_eq (congrArg (fun w9 => ([(mo, .inl (cI, 6, .inl mostA)), (wh, .inl (cI, 5, .inl (fun i => nI (wN i)))), (q1, .inl (cL, nc, .inr (.inr (.inr (.inr (fun i => some (r i))))))), (q2, .inl (cL, nt, .inr (.inr (.inr (.inr (fun i => some (r2 i)))))))] : va_W) ++ (w9 ++ (RC cI r f nc ++ ((YW cI cC cT x A (B 0) nc nt f g ++ CW cI cC cT B nc2 nt2 f2 g2) ++ (SM cI cL S C T nc nt f g))))) eT) hD
          refine lv_bipush (v := 10) hx hb dL_law_270 (by decide) ?_
          refine w_newi hx hb (hts _ acL_law_int) hK hP hD hS hA rfl 10 rfl (by omega) (by show _ ≤ 600130; omega) (by show _ ≤ 7301080; omega) dL_law_272 (fun q3 H hP hD hS => ?_)
          have pm : ((([(mo, .inl (cI, 6, .inl mostA)), (wh, .inl (cI, 5, .inl (fun i => nI (wN i)))), (q1, .inl (cL, nc, .inr (.inr (.inr (.inr (fun i => some (r i))))))), (q2, .inl (cL, nt, .inr (.inr (.inr (.inr (fun i => some (r2 i)))))))] : va_W) ++ (RT cI r2 f nt ++ (RC cI r f nc ++ ((YW cI cC cT x A (B 0) nc nt f g ++ CW cI cC cT B nc2 nt2 f2 g2) ++ (SM cI cL S C T nc nt f g))))) ++ ([(q3, .inl (cI, 10, .inl (fun _ => 0)))] : va_W)).Perm (([(mo, .inl (cI, 6, .inl mostA)), (wh, .inl (cI, 5, .inl (fun i => nI (wN i)))), (q1, .inl (cL, nc, .inr (.inr (.inr (.inr (fun i => some (r i))))))), (q2, .inl (cL, nt, .inr (.inr (.inr (.inr (fun i => some (r2 i))))))), (q3, .inl (cI, 10, .inl (fun _ => 0)))] : va_W) ++ (RT cI r2 f nt ++ (RC cI r f nc ++ ((YW cI cC cT x A (B 0) nc nt f g ++ CW cI cC cT B nc2 nt2 f2 g2) ++ (SM cI cL S C T nc nt f g))))) := pm_new (([(mo, .inl (cI, 6, .inl mostA)), (wh, .inl (cI, 5, .inl (fun i => nI (wN i)))), (q1, .inl (cL, nc, .inr (.inr (.inr (.inr (fun i => some (r i))))))), (q2, .inl (cL, nt, .inr (.inr (.inr (.inr (fun i => some (r2 i)))))))] : va_W)) _ _
          have hP : va_P D vwCl (([(mo, .inl (cI, 6, .inl mostA)), (wh, .inl (cI, 5, .inl (fun i => nI (wN i)))), (q1, .inl (cL, nc, .inr (.inr (.inr (.inr (fun i => some (r i))))))), (q2, .inl (cL, nt, .inr (.inr (.inr (.inr (fun i => some (r2 i))))))), (q3, .inl (cI, 10, .inl (fun _ => 0)))] : va_W) ++ (RT cI r2 f nt ++ (RC cI r f nc ++ ((YW cI cC cT x A (B 0) nc nt f g ++ CW cI cC cT B nc2 nt2 f2 g2) ++ (SM cI cL S C T nc nt f g))))) H := P_pm pm hP
          have hD : va_D A0 (([(mo, .inl (cI, 6, .inl mostA)), (wh, .inl (cI, 5, .inl (fun i => nI (wN i)))), (q1, .inl (cL, nc, .inr (.inr (.inr (.inr (fun i => some (r i))))))), (q2, .inl (cL, nt, .inr (.inr (.inr (.inr (fun i => some (r2 i))))))), (q3, .inl (cI, 10, .inl (fun _ => 0)))] : va_W) ++ (RT cI r2 f nt ++ (RC cI r f nc ++ ((YW cI cC cT x A (B 0) nc nt f g ++ CW cI cC cT B nc2 nt2 f2 g2) ++ (SM cI cL S C T nc nt f g))))) := D_pm pm hD
          refine lv_astore (lv' := [(11, .ref q3), (10, .ref q2), (9, .ref q1), (8, .int (nI nt)), (7, .int (nI nc)), (5, .int (nI time)), (4, .ref wh), (3, .ref mo), (2, .ref (S 0)), (1, .ref x), (0, .ref b)]) hx hb dL_law_274 hl (by decide) rfl (fun ls hl => ?_)
          refine lv_iconst (v := 0) hx hb dL_law_276 (by decide) ?_
          refine lv_istore (lv' := [(12, .int 0), (11, .ref q3), (10, .ref q2), (9, .ref q1), (8, .int (nI nt)), (7, .int (nI nc)), (5, .int (nI time)), (4, .ref wh), (3, .ref mo), (2, .ref (S 0)), (1, .ref x), (0, .ref b)]) hx hb dL_law_277 hl (by decide) rfl (fun ls hl => ?_)
          have lp2 : ∀ (n j : Nat), j + n = 10 → ∀ (F : Nat → Int32), (∀ i, i < j → F i = cntF nt f g i) → ∀ (H : Heap) (locs : List Loc), va_P D vwCl (([(mo, .inl (cI, 6, .inl mostA)), (wh, .inl (cI, 5, .inl (fun i => nI (wN i)))), (q1, .inl (cL, nc, .inr (.inr (.inr (.inr (fun i => some (r i))))))), (q2, .inl (cL, nt, .inr (.inr (.inr (.inr (fun i => some (r2 i))))))), (q3, .inl (cI, 10, .inl F))] : va_W) ++ (RT cI r2 f nt ++ (RC cI r f nc ++ ((YW cI cC cT x A (B 0) nc nt f g ++ CW cI cC cT B nc2 nt2 f2 g2) ++ (SM cI cL S C T nc nt f g))))) H → va_D A0 (([(mo, .inl (cI, 6, .inl mostA)), (wh, .inl (cI, 5, .inl (fun i => nI (wN i)))), (q1, .inl (cL, nc, .inr (.inr (.inr (.inr (fun i => some (r i))))))), (q2, .inl (cL, nt, .inr (.inr (.inr (.inr (fun i => some (r2 i))))))), (q3, .inl (cI, 10, .inl F))] : va_W) ++ (RT cI r2 f nt ++ (RC cI r f nc ++ ((YW cI cC cT x A (B 0) nc nt f g ++ CW cI cC cT B nc2 nt2 f2 g2) ++ (SM cI cL S C T nc nt f g))))) → va_S A0 s.heap H locs → ∀ ls, lv_has ls 30 [(12, .int (nI j)), (11, .ref q3), (10, .ref q2), (9, .ref q1), (8, .int (nI nt)), (7, .int (nI nc)), (5, .int (nI time)), (4, .ref wh), (3, .ref mo), (2, .ref (S 0)), (1, .ref x), (0, .ref b)] → W p l e room_1 s m args below meth c H locs (cells + 80 + j) (slots + 450 + 6 * j) Q (F0 m 279 ls []) := by
            intro n
            induction n with
            | zero =>
              intro j hj F hF H locs hP hD hS ls hl
              have hje : 10 = j := by omega
              subst hje
              refine lv_iload hx hb dL_law_279 (lv_at hl 0 rfl) ?_
              refine lv_bipush (v := 10) hx hb dL_law_281 (by decide) ?_
              refine lv_icmp_ge (tgt := 303) hx hb dL_law_283 (by decide) (fun c_283 => ?_) (fun c_283 => ?_)
              rotate_left
              · exact absurd (by decide) c_283
              have hP := P_arr hP 4 rfl (f' := cntF nt f g) hF
              have hP : va_P D vwCl (([(mo, .inl (cI, 6, .inl mostA)), (wh, .inl (cI, 5, .inl (fun i => nI (wN i)))), (q1, .inl (cL, nc, .inr (.inr (.inr (.inr (fun i => some (r i))))))), (q2, .inl (cL, nt, .inr (.inr (.inr (.inr (fun i => some (r2 i))))))), (q3, .inl (cI, 10, .inl (cntF nt f g)))] : va_W) ++ (RT cI r2 f nt ++ (RC cI r f nc ++ ((YW cI cC cT x A (B 0) nc nt f g ++ CW cI cC cT B nc2 nt2 f2 g2) ++ (SM cI cL S C T nc nt f g))))) H := hP
              have hD : va_D A0 (([(mo, .inl (cI, 6, .inl mostA)), (wh, .inl (cI, 5, .inl (fun i => nI (wN i)))), (q1, .inl (cL, nc, .inr (.inr (.inr (.inr (fun i => some (r i))))))), (q2, .inl (cL, nt, .inr (.inr (.inr (.inr (fun i => some (r2 i))))))), (q3, .inl (cI, 10, .inl (cntF nt f g)))] : va_W) ++ (RT cI r2 f nt ++ (RC cI r f nc ++ ((YW cI cC cT x A (B 0) nc nt f g ++ CW cI cC cT B nc2 nt2 f2 g2) ++ (SM cI cL S C T nc nt f g))))) := D_fst (by rfl) hD
              refine lv_iconst (v := 2) hx hb dL_law_303 (by decide) ?_
              refine lv_istore (lv' := [(12, .int 2), (11, .ref q3), (10, .ref q2), (9, .ref q1), (8, .int (nI nt)), (7, .int (nI nc)), (5, .int (nI time)), (4, .ref wh), (3, .ref mo), (2, .ref (S 0)), (1, .ref x), (0, .ref b)]) hx hb dL_law_304 hl (by decide) rfl (fun ls hl => ?_)
              refine lv_iload hx hb dL_law_306 (lv_at hl 0 rfl) ?_
              refine lv_bipush (v := 6) hx hb dL_law_308 (by decide) ?_
              refine lv_icmp_ge (tgt := 341) hx hb dL_law_310 (by decide) (fun c_310 => ?_) (fun c_310 => ?_)
              · exact absurd c_310 (by decide)
              refine lv_aload hx hb dL_law_313 (lv_at hl 1 rfl) ?_
              refine lv_iload hx hb dL_law_315 (lv_at hl 0 rfl) ?_
              refine w_ildM hx hb hK hP (List.mem_append_left _ (List.mem_of_getElem? (i := 4) rfl)) rfl 2 rfl (by decide) (by decide) (v := (cntF nt f g) 2) rfl dL_law_317 ?_
              refine lv_if_lt (tgt := 333) hx hb dL_law_318 (by decide) (fun c_318 => ?_) (fun c_318 => ?_)
              · exact absurd c_318 (hadb hI 2 (by decide) (by decide)).1
              refine lv_aload hx hb dL_law_321 (lv_at hl 1 rfl) ?_
              refine lv_iload hx hb dL_law_323 (lv_at hl 0 rfl) ?_
              refine w_ildM hx hb hK hP (List.mem_append_left _ (List.mem_of_getElem? (i := 4) rfl)) rfl 2 rfl (by decide) (by decide) (v := (cntF nt f g) 2) rfl dL_law_325 ?_
              refine lv_aload_n hx hb dL_law_326 rfl (lv_at hl 8 rfl) ?_
              refine lv_iload hx hb dL_law_327 (lv_at hl 0 rfl) ?_
              refine w_ildM hx hb hK hP (List.mem_append_left _ (List.mem_of_getElem? (i := 0) rfl)) rfl 2 rfl (by decide) (by decide) (v := mostA 2) rfl dL_law_329 ?_
              refine lv_icmp_le (tgt := 335) hx hb dL_law_330 (by decide) (fun c_330 => ?_) (fun c_330 => ?_)
              rotate_left
              · exact absurd (hadb hI 2 (by decide) (by decide)).2 c_330
              refine lv_iinc (v := 3) (lv' := [(12, .int 3), (11, .ref q3), (10, .ref q2), (9, .ref q1), (8, .int (nI nt)), (7, .int (nI nc)), (5, .int (nI time)), (4, .ref wh), (3, .ref mo), (2, .ref (S 0)), (1, .ref x), (0, .ref b)]) hx hb dL_law_335 hl (k := 0) rfl (by decide) (by decide) rfl (fun ls hl => ?_)
              refine lv_goto (tgt := 306) hx hb dL_law_338 (by decide) ?_
              refine lv_iload hx hb dL_law_306 (lv_at hl 0 rfl) ?_
              refine lv_bipush (v := 6) hx hb dL_law_308 (by decide) ?_
              refine lv_icmp_ge (tgt := 341) hx hb dL_law_310 (by decide) (fun c_310 => ?_) (fun c_310 => ?_)
              · exact absurd c_310 (by decide)
              refine lv_aload hx hb dL_law_313 (lv_at hl 1 rfl) ?_
              refine lv_iload hx hb dL_law_315 (lv_at hl 0 rfl) ?_
              refine w_ildM hx hb hK hP (List.mem_append_left _ (List.mem_of_getElem? (i := 4) rfl)) rfl 3 rfl (by decide) (by decide) (v := (cntF nt f g) 3) rfl dL_law_317 ?_
              refine lv_if_lt (tgt := 333) hx hb dL_law_318 (by decide) (fun c_318 => ?_) (fun c_318 => ?_)
              · exact absurd c_318 (hadb hI 3 (by decide) (by decide)).1
              refine lv_aload hx hb dL_law_321 (lv_at hl 1 rfl) ?_
              refine lv_iload hx hb dL_law_323 (lv_at hl 0 rfl) ?_
              refine w_ildM hx hb hK hP (List.mem_append_left _ (List.mem_of_getElem? (i := 4) rfl)) rfl 3 rfl (by decide) (by decide) (v := (cntF nt f g) 3) rfl dL_law_325 ?_
              refine lv_aload_n hx hb dL_law_326 rfl (lv_at hl 8 rfl) ?_
              refine lv_iload hx hb dL_law_327 (lv_at hl 0 rfl) ?_
              refine w_ildM hx hb hK hP (List.mem_append_left _ (List.mem_of_getElem? (i := 0) rfl)) rfl 3 rfl (by decide) (by decide) (v := mostA 3) rfl dL_law_329 ?_
              refine lv_icmp_le (tgt := 335) hx hb dL_law_330 (by decide) (fun c_330 => ?_) (fun c_330 => ?_)
              rotate_left
              · exact absurd (hadb hI 3 (by decide) (by decide)).2 c_330
              refine lv_iinc (v := 4) (lv' := [(12, .int 4), (11, .ref q3), (10, .ref q2), (9, .ref q1), (8, .int (nI nt)), (7, .int (nI nc)), (5, .int (nI time)), (4, .ref wh), (3, .ref mo), (2, .ref (S 0)), (1, .ref x), (0, .ref b)]) hx hb dL_law_335 hl (k := 0) rfl (by decide) (by decide) rfl (fun ls hl => ?_)
              refine lv_goto (tgt := 306) hx hb dL_law_338 (by decide) ?_
              refine lv_iload hx hb dL_law_306 (lv_at hl 0 rfl) ?_
              refine lv_bipush (v := 6) hx hb dL_law_308 (by decide) ?_
              refine lv_icmp_ge (tgt := 341) hx hb dL_law_310 (by decide) (fun c_310 => ?_) (fun c_310 => ?_)
              · exact absurd c_310 (by decide)
              refine lv_aload hx hb dL_law_313 (lv_at hl 1 rfl) ?_
              refine lv_iload hx hb dL_law_315 (lv_at hl 0 rfl) ?_
              refine w_ildM hx hb hK hP (List.mem_append_left _ (List.mem_of_getElem? (i := 4) rfl)) rfl 4 rfl (by decide) (by decide) (v := (cntF nt f g) 4) rfl dL_law_317 ?_
              refine lv_if_lt (tgt := 333) hx hb dL_law_318 (by decide) (fun c_318 => ?_) (fun c_318 => ?_)
              · exact absurd c_318 (hadb hI 4 (by decide) (by decide)).1
              refine lv_aload hx hb dL_law_321 (lv_at hl 1 rfl) ?_
              refine lv_iload hx hb dL_law_323 (lv_at hl 0 rfl) ?_
              refine w_ildM hx hb hK hP (List.mem_append_left _ (List.mem_of_getElem? (i := 4) rfl)) rfl 4 rfl (by decide) (by decide) (v := (cntF nt f g) 4) rfl dL_law_325 ?_
              refine lv_aload_n hx hb dL_law_326 rfl (lv_at hl 8 rfl) ?_
              refine lv_iload hx hb dL_law_327 (lv_at hl 0 rfl) ?_
              refine w_ildM hx hb hK hP (List.mem_append_left _ (List.mem_of_getElem? (i := 0) rfl)) rfl 4 rfl (by decide) (by decide) (v := mostA 4) rfl dL_law_329 ?_
              refine lv_icmp_le (tgt := 335) hx hb dL_law_330 (by decide) (fun c_330 => ?_) (fun c_330 => ?_)
              rotate_left
              · exact absurd (hadb hI 4 (by decide) (by decide)).2 c_330
              refine lv_iinc (v := 5) (lv' := [(12, .int 5), (11, .ref q3), (10, .ref q2), (9, .ref q1), (8, .int (nI nt)), (7, .int (nI nc)), (5, .int (nI time)), (4, .ref wh), (3, .ref mo), (2, .ref (S 0)), (1, .ref x), (0, .ref b)]) hx hb dL_law_335 hl (k := 0) rfl (by decide) (by decide) rfl (fun ls hl => ?_)
              refine lv_goto (tgt := 306) hx hb dL_law_338 (by decide) ?_
              refine lv_iload hx hb dL_law_306 (lv_at hl 0 rfl) ?_
              refine lv_bipush (v := 6) hx hb dL_law_308 (by decide) ?_
              refine lv_icmp_ge (tgt := 341) hx hb dL_law_310 (by decide) (fun c_310 => ?_) (fun c_310 => ?_)
              · exact absurd c_310 (by decide)
              refine lv_aload hx hb dL_law_313 (lv_at hl 1 rfl) ?_
              refine lv_iload hx hb dL_law_315 (lv_at hl 0 rfl) ?_
              refine w_ildM hx hb hK hP (List.mem_append_left _ (List.mem_of_getElem? (i := 4) rfl)) rfl 5 rfl (by decide) (by decide) (v := (cntF nt f g) 5) rfl dL_law_317 ?_
              refine lv_if_lt (tgt := 333) hx hb dL_law_318 (by decide) (fun c_318 => ?_) (fun c_318 => ?_)
              · exact absurd c_318 (hadb hI 5 (by decide) (by decide)).1
              refine lv_aload hx hb dL_law_321 (lv_at hl 1 rfl) ?_
              refine lv_iload hx hb dL_law_323 (lv_at hl 0 rfl) ?_
              refine w_ildM hx hb hK hP (List.mem_append_left _ (List.mem_of_getElem? (i := 4) rfl)) rfl 5 rfl (by decide) (by decide) (v := (cntF nt f g) 5) rfl dL_law_325 ?_
              refine lv_aload_n hx hb dL_law_326 rfl (lv_at hl 8 rfl) ?_
              refine lv_iload hx hb dL_law_327 (lv_at hl 0 rfl) ?_
              refine w_ildM hx hb hK hP (List.mem_append_left _ (List.mem_of_getElem? (i := 0) rfl)) rfl 5 rfl (by decide) (by decide) (v := mostA 5) rfl dL_law_329 ?_
              refine lv_icmp_le (tgt := 335) hx hb dL_law_330 (by decide) (fun c_330 => ?_) (fun c_330 => ?_)
              rotate_left
              · exact absurd (hadb hI 5 (by decide) (by decide)).2 c_330
              refine lv_iinc (v := 6) (lv' := [(12, .int 6), (11, .ref q3), (10, .ref q2), (9, .ref q1), (8, .int (nI nt)), (7, .int (nI nc)), (5, .int (nI time)), (4, .ref wh), (3, .ref mo), (2, .ref (S 0)), (1, .ref x), (0, .ref b)]) hx hb dL_law_335 hl (k := 0) rfl (by decide) (by decide) rfl (fun ls hl => ?_)
              refine lv_goto (tgt := 306) hx hb dL_law_338 (by decide) ?_
              refine lv_iload hx hb dL_law_306 (lv_at hl 0 rfl) ?_
              refine lv_bipush (v := 6) hx hb dL_law_308 (by decide) ?_
              refine lv_icmp_ge (tgt := 341) hx hb dL_law_310 (by decide) (fun c_310 => ?_) (fun c_310 => ?_)
              rotate_left
              · exact absurd (by decide) c_310
              exact W.widen (by omega) (by omega) (law_3 EL ht hh G hcE hsE (cells := cells + 90) (slots := slots + 510) (by omega) (by omega) K hP hD hS (lv_sub hl [1, 2, 3, 4, 5, 6, 7, 8, 9, 10, 11] rfl))
            | succ n ih =>
              intro j hj F hF H locs hP hD hS ls hl
              refine lv_iload hx hb dL_law_279 (lv_at hl 0 rfl) ?_
              refine lv_bipush (v := 10) hx hb dL_law_281 (by decide) ?_
              refine lv_icmp_ge (tgt := 303) hx hb dL_law_283 (by decide) (fun c_283 => ?_) (fun c_283 => ?_)
              · exact absurd c_283 (nI_ge (b := 10) (by omega) (by decide))
              refine lv_aload hx hb dL_law_286 (lv_at hl 1 rfl) ?_
              refine lv_iload hx hb dL_law_288 (lv_at hl 0 rfl) ?_
              refine lv_aload_n hx hb dL_law_290 rfl (lv_at hl 10 rfl) ?_
              refine lv_iload hx hb dL_law_291 (lv_at hl 0 rfl) ?_
              refine c1_V0 (xe_no (k_count (w := j) (by omega))) (As := [.int (nI j)]) (rest := [.int (nI j), .ref q3]) (ws' := ([(mo, .inl (cI, 6, .inl mostA)), (wh, .inl (cI, 5, .inl (fun i => nI (wN i)))), (q1, .inl (cL, nc, .inr (.inr (.inr (.inr (fun i => some (r i))))))), (q2, .inl (cL, nt, .inr (.inr (.inr (.inr (fun i => some (r2 i))))))), (q3, .inl (cI, 10, .inl F))] : va_W) ++ (RT cI r2 f nt ++ (RC cI r f nc ++ ((YW cI cC cT x A (B 0) nc nt f g ++ CW cI cC cT B nc2 nt2 f2 g2) ++ (SM cI cL S C T nc nt f g))))) ⟨hx, hb, hml, hown, hts⟩ (mX3_count l D cI cC cT cL hl0 x (B 0) A nc nt f g (nI j) hnt h (by omega) h0) (cwV 1 hts gL_law_X3_count rfl rfl rfl pX3_count ⟨by decide, by decide⟩) hK hP hD hS hA hST ((Jf_r _ (Jf_r _ (Jf_r _ (Jf_l _ (Jf_hd _ _ _ yw_fst)))))).1 ((Jf_r _ (Jf_r _ (Jf_r _ (Jf_l _ (Jf_hd _ _ _ yw_fst)))))).1 0 rfl rfl rfl rfl hl.1 rfl (Nat.le_of_ble_eq_true rfl) dL_law_293 ⟨(by show _ ≤ 600130; omega), (by show _ ≤ 7301080; omega)⟩ rfl (fun H locs hP hD hS => ?_)
              rw [nI_clamp (n := j) (by omega)]
              refine w_istJ (ws' := ([(mo, .inl (cI, 6, .inl mostA)), (wh, .inl (cI, 5, .inl (fun i => nI (wN i)))), (q1, .inl (cL, nc, .inr (.inr (.inr (.inr (fun i => some (r i))))))), (q2, .inl (cL, nt, .inr (.inr (.inr (.inr (fun i => some (r2 i))))))), (q3, .inl (cI, 10, .inl (upd F j (cntF nt f g j))))] : va_W) ++ (RT cI r2 f nt ++ (RC cI r f nc ++ ((YW cI cC cT x A (B 0) nc nt f g ++ CW cI cC cT B nc2 nt2 f2 g2) ++ (SM cI cL S C T nc nt f g))))) hx hb hK hP hD hS j (Jf_l _ (Jf_set 4 rfl rfl)) rfl rfl (by omega) (by decide) dL_law_296 (fun H locs hP hD hS => ?_)
              refine lv_iinc (v := nI (j + 1)) (lv' := [(12, .int (nI (j + 1))), (11, .ref q3), (10, .ref q2), (9, .ref q1), (8, .int (nI nt)), (7, .int (nI nc)), (5, .int (nI time)), (4, .ref wh), (3, .ref mo), (2, .ref (S 0)), (1, .ref x), (0, .ref b)]) hx hb dL_law_297 hl (k := 0) rfl (nI_succ _).symm (by decide) rfl (fun ls hl => ?_)
              refine lv_goto (tgt := 279) hx hb dL_law_300 (by decide) ?_
              exact W.widen (by omega) (by omega) (ih (j + 1) (by omega) _ (snap1 hF) _ _ hP hD hS _ (lv_sub hl [0, 1, 2, 3, 4, 5, 6, 7, 8, 9, 10, 11] rfl))
          exact W.widen (by omega) (by omega) (lp2 10 0 (by omega) (fun _ => 0) (fun i hi => absurd hi (Nat.not_lt_zero _)) _ _ hP hD hS _ (lv_sub hl [0, 1, 2, 3, 4, 5, 6, 7, 8, 9, 10, 11] rfl))
        | succ n ih =>
          intro j hj F hF H locs hP hD hS ls hl
          refine lv_iload hx hb dL_law_226 (lv_at hl 0 rfl) ?_
          refine lv_iload hx hb dL_law_228 (lv_at hl 3 rfl) ?_
          refine lv_icmp_ge (tgt := 270) hx hb dL_law_230 (by decide) (fun c_230 => ?_) (fun c_230 => ?_)
          · exact absurd c_230 (nI_ge (by omega) (by omega))
          refine lv_iconst (v := 0) hx hb dL_law_233 (by decide) ?_
          refine lv_istore (lv' := [(12, .int 0), (11, .int (nI j)), (10, .ref q2), (9, .ref q1), (8, .int (nI nt)), (7, .int (nI nc)), (5, .int (nI time)), (4, .ref wh), (3, .ref mo), (2, .ref (S 0)), (1, .ref x), (0, .ref b)]) hx hb dL_law_234 hl (by decide) rfl (fun ls hl => ?_)
          refine lv_iload hx hb dL_law_236 (lv_at hl 0 rfl) ?_
          refine lv_iconst (v := 3) hx hb dL_law_238 (by decide) ?_
          refine lv_icmp_ge (tgt := 264) hx hb dL_law_239 (by decide) (fun c_239 => ?_) (fun c_239 => ?_)
          · exact absurd c_239 (by decide)
          refine lv_aload hx hb dL_law_242 (lv_at hl 2 rfl) ?_
          refine lv_iload hx hb dL_law_244 (lv_at hl 1 rfl) ?_
          refine w_qldA hx hb hK hP (List.mem_append_left _ (List.mem_of_getElem? (i := 3) rfl)) rfl j rfl (by omega) (by omega) (v := r2 j) rfl dL_law_246 ?_
          refine lv_iload hx hb dL_law_247 (lv_at hl 0 rfl) ?_
          refine lv_aload_n hx hb dL_law_249 rfl (lv_at hl 10 rfl) ?_
          refine lv_iload hx hb dL_law_250 (lv_at hl 1 rfl) ?_
          refine lv_iload hx hb dL_law_252 (lv_at hl 0 rfl) ?_
          refine c1_V0 (xe_no (k_told (n := nt) (i := j) (w := 0) (by omega) (by omega) (by decide))) (As := [.int (nI j), .int 0]) (rest := [.int 0, .ref (r2 j)]) (ws' := ([(mo, .inl (cI, 6, .inl mostA)), (wh, .inl (cI, 5, .inl (fun i => nI (wN i)))), (q1, .inl (cL, nc, .inr (.inr (.inr (.inr (fun i => some (r i))))))), (q2, .inl (cL, nt, .inr (.inr (.inr (.inr (fun i => some (r2 i)))))))] : va_W) ++ (RT cI r2 F nt ++ (RC cI r f nc ++ ((YW cI cC cT x A (B 0) nc nt f g ++ CW cI cC cT B nc2 nt2 f2 g2) ++ (SM cI cL S C T nc nt f g))))) ⟨hx, hb, hml, hown, hts⟩ (mX3_about l D cI cC cT cL hl0 x (B 0) A nc nt f g (nI j) 0 hnt) (cwV 2 hts gL_law_X3_about rfl rfl rfl pX3_about ⟨by decide, by decide⟩) hK hP hD hS hA hST ((Jf_r _ (Jf_r _ (Jf_r _ (Jf_l _ (Jf_hd _ _ _ yw_fst)))))).1 ((Jf_r _ (Jf_r _ (Jf_r _ (Jf_l _ (Jf_hd _ _ _ yw_fst)))))).1 0 rfl rfl rfl rfl hl.1 rfl (Nat.le_of_ble_eq_true rfl) dL_law_254 ⟨(by show _ ≤ 600130; omega), (by show _ ≤ 7301080; omega)⟩ rfl (fun H locs hP hD hS => ?_)
          rw [show pick3 (0 : Int32).toNatClampNeg (f (19 + 3 * (nI j).toNatClampNeg)) (f (20 + 3 * (nI j).toNatClampNeg)) (f (21 + 3 * (nI j).toNatClampNeg)) = f (19 + 3 * j) by rw [nI_clamp (n := j) (by omega)] <;> rfl]
          refine w_istJ (ws' := ([(mo, .inl (cI, 6, .inl mostA)), (wh, .inl (cI, 5, .inl (fun i => nI (wN i)))), (q1, .inl (cL, nc, .inr (.inr (.inr (.inr (fun i => some (r i))))))), (q2, .inl (cL, nt, .inr (.inr (.inr (.inr (fun i => some (r2 i)))))))] : va_W) ++ (RT cI r2 (set3 F (19 + 3 * j) (f (19 + 3 * j)) (F (20 + 3 * j)) (F (21 + 3 * j))) nt ++ (RC cI r f nc ++ ((YW cI cC cT x A (B 0) nc nt f g ++ CW cI cC cT B nc2 nt2 f2 g2) ++ (SM cI cL S C T nc nt f g))))) hx hb hK hP hD hS 0 (Jf_r _ (Jf_l _ (Q_t0 (by omega) (f (19 + 3 * j))))) rfl rfl (by decide) (by decide) dL_law_257 (fun H locs hP hD hS => ?_)
          refine lv_iinc (v := 1) (lv' := [(12, .int 1), (11, .int (nI j)), (10, .ref q2), (9, .ref q1), (8, .int (nI nt)), (7, .int (nI nc)), (5, .int (nI time)), (4, .ref wh), (3, .ref mo), (2, .ref (S 0)), (1, .ref x), (0, .ref b)]) hx hb dL_law_258 hl (k := 0) rfl (by decide) (by decide) rfl (fun ls hl => ?_)
          refine lv_goto (tgt := 236) hx hb dL_law_261 (by decide) ?_
          refine lv_iload hx hb dL_law_236 (lv_at hl 0 rfl) ?_
          refine lv_iconst (v := 3) hx hb dL_law_238 (by decide) ?_
          refine lv_icmp_ge (tgt := 264) hx hb dL_law_239 (by decide) (fun c_239 => ?_) (fun c_239 => ?_)
          · exact absurd c_239 (by decide)
          refine lv_aload hx hb dL_law_242 (lv_at hl 2 rfl) ?_
          refine lv_iload hx hb dL_law_244 (lv_at hl 1 rfl) ?_
          refine w_qldA hx hb hK hP (List.mem_append_left _ (List.mem_of_getElem? (i := 3) rfl)) rfl j rfl (by omega) (by omega) (v := r2 j) rfl dL_law_246 ?_
          refine lv_iload hx hb dL_law_247 (lv_at hl 0 rfl) ?_
          refine lv_aload_n hx hb dL_law_249 rfl (lv_at hl 10 rfl) ?_
          refine lv_iload hx hb dL_law_250 (lv_at hl 1 rfl) ?_
          refine lv_iload hx hb dL_law_252 (lv_at hl 0 rfl) ?_
          refine c1_V0 (xe_no (k_told (n := nt) (i := j) (w := 1) (by omega) (by omega) (by decide))) (As := [.int (nI j), .int 1]) (rest := [.int 1, .ref (r2 j)]) (ws' := ([(mo, .inl (cI, 6, .inl mostA)), (wh, .inl (cI, 5, .inl (fun i => nI (wN i)))), (q1, .inl (cL, nc, .inr (.inr (.inr (.inr (fun i => some (r i))))))), (q2, .inl (cL, nt, .inr (.inr (.inr (.inr (fun i => some (r2 i)))))))] : va_W) ++ (RT cI r2 (set3 F (19 + 3 * j) (f (19 + 3 * j)) (F (20 + 3 * j)) (F (21 + 3 * j))) nt ++ (RC cI r f nc ++ ((YW cI cC cT x A (B 0) nc nt f g ++ CW cI cC cT B nc2 nt2 f2 g2) ++ (SM cI cL S C T nc nt f g))))) ⟨hx, hb, hml, hown, hts⟩ (mX3_about l D cI cC cT cL hl0 x (B 0) A nc nt f g (nI j) 1 hnt) (cwV 2 hts gL_law_X3_about rfl rfl rfl pX3_about ⟨by decide, by decide⟩) hK hP hD hS hA hST ((Jf_r _ (Jf_r _ (Jf_r _ (Jf_l _ (Jf_hd _ _ _ yw_fst)))))).1 ((Jf_r _ (Jf_r _ (Jf_r _ (Jf_l _ (Jf_hd _ _ _ yw_fst)))))).1 0 rfl rfl rfl rfl hl.1 rfl (Nat.le_of_ble_eq_true rfl) dL_law_254 ⟨(by show _ ≤ 600130; omega), (by show _ ≤ 7301080; omega)⟩ rfl (fun H locs hP hD hS => ?_)
          rw [show pick3 (1 : Int32).toNatClampNeg (f (19 + 3 * (nI j).toNatClampNeg)) (f (20 + 3 * (nI j).toNatClampNeg)) (f (21 + 3 * (nI j).toNatClampNeg)) = f (20 + 3 * j) by rw [nI_clamp (n := j) (by omega)] <;> rfl]
          refine w_istJ (ws' := ([(mo, .inl (cI, 6, .inl mostA)), (wh, .inl (cI, 5, .inl (fun i => nI (wN i)))), (q1, .inl (cL, nc, .inr (.inr (.inr (.inr (fun i => some (r i))))))), (q2, .inl (cL, nt, .inr (.inr (.inr (.inr (fun i => some (r2 i)))))))] : va_W) ++ (RT cI r2 (set3 F (19 + 3 * j) (f (19 + 3 * j)) (f (20 + 3 * j)) (F (21 + 3 * j))) nt ++ (RC cI r f nc ++ ((YW cI cC cT x A (B 0) nc nt f g ++ CW cI cC cT B nc2 nt2 f2 g2) ++ (SM cI cL S C T nc nt f g))))) hx hb hK hP hD hS 1 (Jf_r _ (Jf_l _ (Q_t1 (by omega) (f (20 + 3 * j))))) rfl rfl (by decide) (by decide) dL_law_257 (fun H locs hP hD hS => ?_)
          refine lv_iinc (v := 2) (lv' := [(12, .int 2), (11, .int (nI j)), (10, .ref q2), (9, .ref q1), (8, .int (nI nt)), (7, .int (nI nc)), (5, .int (nI time)), (4, .ref wh), (3, .ref mo), (2, .ref (S 0)), (1, .ref x), (0, .ref b)]) hx hb dL_law_258 hl (k := 0) rfl (by decide) (by decide) rfl (fun ls hl => ?_)
          refine lv_goto (tgt := 236) hx hb dL_law_261 (by decide) ?_
          refine lv_iload hx hb dL_law_236 (lv_at hl 0 rfl) ?_
          refine lv_iconst (v := 3) hx hb dL_law_238 (by decide) ?_
          refine lv_icmp_ge (tgt := 264) hx hb dL_law_239 (by decide) (fun c_239 => ?_) (fun c_239 => ?_)
          · exact absurd c_239 (by decide)
          refine lv_aload hx hb dL_law_242 (lv_at hl 2 rfl) ?_
          refine lv_iload hx hb dL_law_244 (lv_at hl 1 rfl) ?_
          refine w_qldA hx hb hK hP (List.mem_append_left _ (List.mem_of_getElem? (i := 3) rfl)) rfl j rfl (by omega) (by omega) (v := r2 j) rfl dL_law_246 ?_
          refine lv_iload hx hb dL_law_247 (lv_at hl 0 rfl) ?_
          refine lv_aload_n hx hb dL_law_249 rfl (lv_at hl 10 rfl) ?_
          refine lv_iload hx hb dL_law_250 (lv_at hl 1 rfl) ?_
          refine lv_iload hx hb dL_law_252 (lv_at hl 0 rfl) ?_
          refine c1_V0 (xe_no (k_told (n := nt) (i := j) (w := 2) (by omega) (by omega) (by decide))) (As := [.int (nI j), .int 2]) (rest := [.int 2, .ref (r2 j)]) (ws' := ([(mo, .inl (cI, 6, .inl mostA)), (wh, .inl (cI, 5, .inl (fun i => nI (wN i)))), (q1, .inl (cL, nc, .inr (.inr (.inr (.inr (fun i => some (r i))))))), (q2, .inl (cL, nt, .inr (.inr (.inr (.inr (fun i => some (r2 i)))))))] : va_W) ++ (RT cI r2 (set3 F (19 + 3 * j) (f (19 + 3 * j)) (f (20 + 3 * j)) (F (21 + 3 * j))) nt ++ (RC cI r f nc ++ ((YW cI cC cT x A (B 0) nc nt f g ++ CW cI cC cT B nc2 nt2 f2 g2) ++ (SM cI cL S C T nc nt f g))))) ⟨hx, hb, hml, hown, hts⟩ (mX3_about l D cI cC cT cL hl0 x (B 0) A nc nt f g (nI j) 2 hnt) (cwV 2 hts gL_law_X3_about rfl rfl rfl pX3_about ⟨by decide, by decide⟩) hK hP hD hS hA hST ((Jf_r _ (Jf_r _ (Jf_r _ (Jf_l _ (Jf_hd _ _ _ yw_fst)))))).1 ((Jf_r _ (Jf_r _ (Jf_r _ (Jf_l _ (Jf_hd _ _ _ yw_fst)))))).1 0 rfl rfl rfl rfl hl.1 rfl (Nat.le_of_ble_eq_true rfl) dL_law_254 ⟨(by show _ ≤ 600130; omega), (by show _ ≤ 7301080; omega)⟩ rfl (fun H locs hP hD hS => ?_)
          rw [show pick3 (2 : Int32).toNatClampNeg (f (19 + 3 * (nI j).toNatClampNeg)) (f (20 + 3 * (nI j).toNatClampNeg)) (f (21 + 3 * (nI j).toNatClampNeg)) = f (21 + 3 * j) by rw [nI_clamp (n := j) (by omega)] <;> rfl]
          refine w_istJ (ws' := ([(mo, .inl (cI, 6, .inl mostA)), (wh, .inl (cI, 5, .inl (fun i => nI (wN i)))), (q1, .inl (cL, nc, .inr (.inr (.inr (.inr (fun i => some (r i))))))), (q2, .inl (cL, nt, .inr (.inr (.inr (.inr (fun i => some (r2 i)))))))] : va_W) ++ (RT cI r2 (set3 F (19 + 3 * j) (f (19 + 3 * j)) (f (20 + 3 * j)) (f (21 + 3 * j))) nt ++ (RC cI r f nc ++ ((YW cI cC cT x A (B 0) nc nt f g ++ CW cI cC cT B nc2 nt2 f2 g2) ++ (SM cI cL S C T nc nt f g))))) hx hb hK hP hD hS 2 (Jf_r _ (Jf_l _ (Q_t2 (by omega) (f (21 + 3 * j))))) rfl rfl (by decide) (by decide) dL_law_257 (fun H locs hP hD hS => ?_)
          refine lv_iinc (v := 3) (lv' := [(12, .int 3), (11, .int (nI j)), (10, .ref q2), (9, .ref q1), (8, .int (nI nt)), (7, .int (nI nc)), (5, .int (nI time)), (4, .ref wh), (3, .ref mo), (2, .ref (S 0)), (1, .ref x), (0, .ref b)]) hx hb dL_law_258 hl (k := 0) rfl (by decide) (by decide) rfl (fun ls hl => ?_)
          refine lv_goto (tgt := 236) hx hb dL_law_261 (by decide) ?_
          refine lv_iload hx hb dL_law_236 (lv_at hl 0 rfl) ?_
          refine lv_iconst (v := 3) hx hb dL_law_238 (by decide) ?_
          refine lv_icmp_ge (tgt := 264) hx hb dL_law_239 (by decide) (fun c_239 => ?_) (fun c_239 => ?_)
          rotate_left
          · exact absurd (by decide) c_239
          refine lv_iinc (v := nI (j + 1)) (lv' := [(11, .int (nI (j + 1))), (12, .int 3), (10, .ref q2), (9, .ref q1), (8, .int (nI nt)), (7, .int (nI nc)), (5, .int (nI time)), (4, .ref wh), (3, .ref mo), (2, .ref (S 0)), (1, .ref x), (0, .ref b)]) hx hb dL_law_264 hl (k := 1) rfl (nI_succ _).symm (by decide) rfl (fun ls hl => ?_)
          refine lv_goto (tgt := 226) hx hb dL_law_267 (by decide) ?_
          exact W.widen (by omega) (by omega) (ih (j + 1) (by omega) _ (snap19 hF) _ _ hP hD hS _ (lv_sub hl [0, 2, 3, 4, 5, 6, 7, 8, 9, 10, 11] rfl))
      exact W.widen (by omega) (by omega) (lp1 nt 0 (by omega) (fun _ => 0) (fun i hi => absurd hi (Nat.not_lt_zero _)) _ _ hP hD hS _ (lv_sub hl [0, 1, 2, 3, 4, 5, 6, 7, 8, 9, 10] rfl))
    | succ n ih =>
      intro j hj F hF H locs hP hD hS ls hl
      refine lv_iload hx hb dL_law_170 (lv_at hl 0 rfl) ?_
      refine lv_iload hx hb dL_law_172 (lv_at hl 3 rfl) ?_
      refine lv_icmp_ge (tgt := 214) hx hb dL_law_174 (by decide) (fun c_174 => ?_) (fun c_174 => ?_)
      · exact absurd c_174 (nI_ge (by omega) (by omega))
      refine lv_iconst (v := 0) hx hb dL_law_177 (by decide) ?_
      refine lv_istore (lv' := [(11, .int 0), (10, .int (nI j)), (9, .ref q1), (8, .int (nI nt)), (7, .int (nI nc)), (5, .int (nI time)), (4, .ref wh), (3, .ref mo), (2, .ref (S 0)), (1, .ref x), (0, .ref b)]) hx hb dL_law_178 hl (by decide) rfl (fun ls hl => ?_)
      refine lv_iload hx hb dL_law_180 (lv_at hl 0 rfl) ?_
      refine lv_iconst (v := 3) hx hb dL_law_182 (by decide) ?_
      refine lv_icmp_ge (tgt := 208) hx hb dL_law_183 (by decide) (fun c_183 => ?_) (fun c_183 => ?_)
      · exact absurd c_183 (by decide)
      refine lv_aload hx hb dL_law_186 (lv_at hl 2 rfl) ?_
      refine lv_iload hx hb dL_law_188 (lv_at hl 1 rfl) ?_
      refine w_qldA hx hb hK hP (List.mem_append_left _ (List.mem_of_getElem? (i := 2) rfl)) rfl j rfl (by omega) (by omega) (v := r j) rfl dL_law_190 ?_
      refine lv_iload hx hb dL_law_191 (lv_at hl 0 rfl) ?_
      refine lv_aload_n hx hb dL_law_193 rfl (lv_at hl 9 rfl) ?_
      refine lv_iload hx hb dL_law_194 (lv_at hl 1 rfl) ?_
      refine lv_iload hx hb dL_law_196 (lv_at hl 0 rfl) ?_
      refine c1_V0 (xe_no (k_told (n := nc) (i := j) (w := 0) (by omega) (by omega) (by decide))) (As := [.int (nI j), .int 0]) (rest := [.int 0, .ref (r j)]) (ws' := ([(mo, .inl (cI, 6, .inl mostA)), (wh, .inl (cI, 5, .inl (fun i => nI (wN i)))), (q1, .inl (cL, nc, .inr (.inr (.inr (.inr (fun i => some (r i)))))))] : va_W) ++ (RC cI r F nc ++ ((YW cI cC cT x A (B 0) nc nt f g ++ CW cI cC cT B nc2 nt2 f2 g2) ++ (SM cI cL S C T nc nt f g)))) ⟨hx, hb, hml, hown, hts⟩ (mX3_told l D cI cC cT cL hl0 x (B 0) A nc nt f g (nI j) 0 hnc) (cwV 2 hts gL_law_X3_told rfl rfl rfl pX3_told ⟨by decide, by decide⟩) hK hP hD hS hA hST ((Jf_r _ (Jf_r _ (Jf_l _ (Jf_hd _ _ _ yw_fst))))).1 ((Jf_r _ (Jf_r _ (Jf_l _ (Jf_hd _ _ _ yw_fst))))).1 0 rfl rfl rfl rfl hl.1 rfl (Nat.le_of_ble_eq_true rfl) dL_law_198 ⟨(by show _ ≤ 600130; omega), (by show _ ≤ 7301080; omega)⟩ rfl (fun H locs hP hD hS => ?_)
      rw [show pick3 (0 : Int32).toNatClampNeg (f (7 + 3 * (nI j).toNatClampNeg)) (f (8 + 3 * (nI j).toNatClampNeg)) (f (9 + 3 * (nI j).toNatClampNeg)) = f (7 + 3 * j) by rw [nI_clamp (n := j) (by omega)] <;> rfl]
      refine w_istJ (ws' := ([(mo, .inl (cI, 6, .inl mostA)), (wh, .inl (cI, 5, .inl (fun i => nI (wN i)))), (q1, .inl (cL, nc, .inr (.inr (.inr (.inr (fun i => some (r i)))))))] : va_W) ++ (RC cI r (set3 F (7 + 3 * j) (f (7 + 3 * j)) (F (8 + 3 * j)) (F (9 + 3 * j))) nc ++ ((YW cI cC cT x A (B 0) nc nt f g ++ CW cI cC cT B nc2 nt2 f2 g2) ++ (SM cI cL S C T nc nt f g)))) hx hb hK hP hD hS 0 (Jf_r _ (Jf_l _ (Q_c0 (by omega) (f (7 + 3 * j))))) rfl rfl (by decide) (by decide) dL_law_201 (fun H locs hP hD hS => ?_)
      refine lv_iinc (v := 1) (lv' := [(11, .int 1), (10, .int (nI j)), (9, .ref q1), (8, .int (nI nt)), (7, .int (nI nc)), (5, .int (nI time)), (4, .ref wh), (3, .ref mo), (2, .ref (S 0)), (1, .ref x), (0, .ref b)]) hx hb dL_law_202 hl (k := 0) rfl (by decide) (by decide) rfl (fun ls hl => ?_)
      refine lv_goto (tgt := 180) hx hb dL_law_205 (by decide) ?_
      refine lv_iload hx hb dL_law_180 (lv_at hl 0 rfl) ?_
      refine lv_iconst (v := 3) hx hb dL_law_182 (by decide) ?_
      refine lv_icmp_ge (tgt := 208) hx hb dL_law_183 (by decide) (fun c_183 => ?_) (fun c_183 => ?_)
      · exact absurd c_183 (by decide)
      refine lv_aload hx hb dL_law_186 (lv_at hl 2 rfl) ?_
      refine lv_iload hx hb dL_law_188 (lv_at hl 1 rfl) ?_
      refine w_qldA hx hb hK hP (List.mem_append_left _ (List.mem_of_getElem? (i := 2) rfl)) rfl j rfl (by omega) (by omega) (v := r j) rfl dL_law_190 ?_
      refine lv_iload hx hb dL_law_191 (lv_at hl 0 rfl) ?_
      refine lv_aload_n hx hb dL_law_193 rfl (lv_at hl 9 rfl) ?_
      refine lv_iload hx hb dL_law_194 (lv_at hl 1 rfl) ?_
      refine lv_iload hx hb dL_law_196 (lv_at hl 0 rfl) ?_
      refine c1_V0 (xe_no (k_told (n := nc) (i := j) (w := 1) (by omega) (by omega) (by decide))) (As := [.int (nI j), .int 1]) (rest := [.int 1, .ref (r j)]) (ws' := ([(mo, .inl (cI, 6, .inl mostA)), (wh, .inl (cI, 5, .inl (fun i => nI (wN i)))), (q1, .inl (cL, nc, .inr (.inr (.inr (.inr (fun i => some (r i)))))))] : va_W) ++ (RC cI r (set3 F (7 + 3 * j) (f (7 + 3 * j)) (F (8 + 3 * j)) (F (9 + 3 * j))) nc ++ ((YW cI cC cT x A (B 0) nc nt f g ++ CW cI cC cT B nc2 nt2 f2 g2) ++ (SM cI cL S C T nc nt f g)))) ⟨hx, hb, hml, hown, hts⟩ (mX3_told l D cI cC cT cL hl0 x (B 0) A nc nt f g (nI j) 1 hnc) (cwV 2 hts gL_law_X3_told rfl rfl rfl pX3_told ⟨by decide, by decide⟩) hK hP hD hS hA hST ((Jf_r _ (Jf_r _ (Jf_l _ (Jf_hd _ _ _ yw_fst))))).1 ((Jf_r _ (Jf_r _ (Jf_l _ (Jf_hd _ _ _ yw_fst))))).1 0 rfl rfl rfl rfl hl.1 rfl (Nat.le_of_ble_eq_true rfl) dL_law_198 ⟨(by show _ ≤ 600130; omega), (by show _ ≤ 7301080; omega)⟩ rfl (fun H locs hP hD hS => ?_)
      rw [show pick3 (1 : Int32).toNatClampNeg (f (7 + 3 * (nI j).toNatClampNeg)) (f (8 + 3 * (nI j).toNatClampNeg)) (f (9 + 3 * (nI j).toNatClampNeg)) = f (8 + 3 * j) by rw [nI_clamp (n := j) (by omega)] <;> rfl]
      refine w_istJ (ws' := ([(mo, .inl (cI, 6, .inl mostA)), (wh, .inl (cI, 5, .inl (fun i => nI (wN i)))), (q1, .inl (cL, nc, .inr (.inr (.inr (.inr (fun i => some (r i)))))))] : va_W) ++ (RC cI r (set3 F (7 + 3 * j) (f (7 + 3 * j)) (f (8 + 3 * j)) (F (9 + 3 * j))) nc ++ ((YW cI cC cT x A (B 0) nc nt f g ++ CW cI cC cT B nc2 nt2 f2 g2) ++ (SM cI cL S C T nc nt f g)))) hx hb hK hP hD hS 1 (Jf_r _ (Jf_l _ (Q_c1 (by omega) (f (8 + 3 * j))))) rfl rfl (by decide) (by decide) dL_law_201 (fun H locs hP hD hS => ?_)
      refine lv_iinc (v := 2) (lv' := [(11, .int 2), (10, .int (nI j)), (9, .ref q1), (8, .int (nI nt)), (7, .int (nI nc)), (5, .int (nI time)), (4, .ref wh), (3, .ref mo), (2, .ref (S 0)), (1, .ref x), (0, .ref b)]) hx hb dL_law_202 hl (k := 0) rfl (by decide) (by decide) rfl (fun ls hl => ?_)
      refine lv_goto (tgt := 180) hx hb dL_law_205 (by decide) ?_
      refine lv_iload hx hb dL_law_180 (lv_at hl 0 rfl) ?_
      refine lv_iconst (v := 3) hx hb dL_law_182 (by decide) ?_
      refine lv_icmp_ge (tgt := 208) hx hb dL_law_183 (by decide) (fun c_183 => ?_) (fun c_183 => ?_)
      · exact absurd c_183 (by decide)
      refine lv_aload hx hb dL_law_186 (lv_at hl 2 rfl) ?_
      refine lv_iload hx hb dL_law_188 (lv_at hl 1 rfl) ?_
      refine w_qldA hx hb hK hP (List.mem_append_left _ (List.mem_of_getElem? (i := 2) rfl)) rfl j rfl (by omega) (by omega) (v := r j) rfl dL_law_190 ?_
      refine lv_iload hx hb dL_law_191 (lv_at hl 0 rfl) ?_
      refine lv_aload_n hx hb dL_law_193 rfl (lv_at hl 9 rfl) ?_
      refine lv_iload hx hb dL_law_194 (lv_at hl 1 rfl) ?_
      refine lv_iload hx hb dL_law_196 (lv_at hl 0 rfl) ?_
      refine c1_V0 (xe_no (k_told (n := nc) (i := j) (w := 2) (by omega) (by omega) (by decide))) (As := [.int (nI j), .int 2]) (rest := [.int 2, .ref (r j)]) (ws' := ([(mo, .inl (cI, 6, .inl mostA)), (wh, .inl (cI, 5, .inl (fun i => nI (wN i)))), (q1, .inl (cL, nc, .inr (.inr (.inr (.inr (fun i => some (r i)))))))] : va_W) ++ (RC cI r (set3 F (7 + 3 * j) (f (7 + 3 * j)) (f (8 + 3 * j)) (F (9 + 3 * j))) nc ++ ((YW cI cC cT x A (B 0) nc nt f g ++ CW cI cC cT B nc2 nt2 f2 g2) ++ (SM cI cL S C T nc nt f g)))) ⟨hx, hb, hml, hown, hts⟩ (mX3_told l D cI cC cT cL hl0 x (B 0) A nc nt f g (nI j) 2 hnc) (cwV 2 hts gL_law_X3_told rfl rfl rfl pX3_told ⟨by decide, by decide⟩) hK hP hD hS hA hST ((Jf_r _ (Jf_r _ (Jf_l _ (Jf_hd _ _ _ yw_fst))))).1 ((Jf_r _ (Jf_r _ (Jf_l _ (Jf_hd _ _ _ yw_fst))))).1 0 rfl rfl rfl rfl hl.1 rfl (Nat.le_of_ble_eq_true rfl) dL_law_198 ⟨(by show _ ≤ 600130; omega), (by show _ ≤ 7301080; omega)⟩ rfl (fun H locs hP hD hS => ?_)
      rw [show pick3 (2 : Int32).toNatClampNeg (f (7 + 3 * (nI j).toNatClampNeg)) (f (8 + 3 * (nI j).toNatClampNeg)) (f (9 + 3 * (nI j).toNatClampNeg)) = f (9 + 3 * j) by rw [nI_clamp (n := j) (by omega)] <;> rfl]
      refine w_istJ (ws' := ([(mo, .inl (cI, 6, .inl mostA)), (wh, .inl (cI, 5, .inl (fun i => nI (wN i)))), (q1, .inl (cL, nc, .inr (.inr (.inr (.inr (fun i => some (r i)))))))] : va_W) ++ (RC cI r (set3 F (7 + 3 * j) (f (7 + 3 * j)) (f (8 + 3 * j)) (f (9 + 3 * j))) nc ++ ((YW cI cC cT x A (B 0) nc nt f g ++ CW cI cC cT B nc2 nt2 f2 g2) ++ (SM cI cL S C T nc nt f g)))) hx hb hK hP hD hS 2 (Jf_r _ (Jf_l _ (Q_c2 (by omega) (f (9 + 3 * j))))) rfl rfl (by decide) (by decide) dL_law_201 (fun H locs hP hD hS => ?_)
      refine lv_iinc (v := 3) (lv' := [(11, .int 3), (10, .int (nI j)), (9, .ref q1), (8, .int (nI nt)), (7, .int (nI nc)), (5, .int (nI time)), (4, .ref wh), (3, .ref mo), (2, .ref (S 0)), (1, .ref x), (0, .ref b)]) hx hb dL_law_202 hl (k := 0) rfl (by decide) (by decide) rfl (fun ls hl => ?_)
      refine lv_goto (tgt := 180) hx hb dL_law_205 (by decide) ?_
      refine lv_iload hx hb dL_law_180 (lv_at hl 0 rfl) ?_
      refine lv_iconst (v := 3) hx hb dL_law_182 (by decide) ?_
      refine lv_icmp_ge (tgt := 208) hx hb dL_law_183 (by decide) (fun c_183 => ?_) (fun c_183 => ?_)
      rotate_left
      · exact absurd (by decide) c_183
      refine lv_iinc (v := nI (j + 1)) (lv' := [(10, .int (nI (j + 1))), (11, .int 3), (9, .ref q1), (8, .int (nI nt)), (7, .int (nI nc)), (5, .int (nI time)), (4, .ref wh), (3, .ref mo), (2, .ref (S 0)), (1, .ref x), (0, .ref b)]) hx hb dL_law_208 hl (k := 1) rfl (nI_succ _).symm (by decide) rfl (fun ls hl => ?_)
      refine lv_goto (tgt := 170) hx hb dL_law_211 (by decide) ?_
      exact W.widen (by omega) (by omega) (ih (j + 1) (by omega) _ (snap7 hF) _ _ hP hD hS _ (lv_sub hl [0, 2, 3, 4, 5, 6, 7, 8, 9, 10] rfl))
  exact W.widen (by omega) (by omega) (lp0 nc 0 (by omega) (fun _ => 0) (fun i hi => absurd hi (Nat.not_lt_zero _)) _ _ hP hD hS _ (lv_sub hl [0, 1, 2, 3, 4, 5, 6, 7, 8, 9] rfl))
