set_option maxHeartbeats 4000000 in
set_option maxRecDepth 100000 in
theorem law_3 {p : Program} {l : Launch} {e : Env} {s : State} {m : MethodId} {args : Array Value} {below : List Frame} {meth : Method} {c : Code} {Q : State → Prop} {A0 : Nat → Prop} {b L : Nat} {xs : Nat → Int32} {D : va_G} {cI cC cT cL : ClassId} {x mo wh : Nat} {A B : Nat → Nat} {time cE sE cells slots : Nat} {S C T : Nat → Nat} {nc nt h : Nat} {f g : Nat → Int32} {nc2 nt2 : Nat} {f2 g2 : Nat → Int32} {H : Heap} {locs : List Loc} {ls : Array Slot} {qc qt qh : Nat} {r r2 : Nat → Nat} (EL : LE p l s m args c A0 b L xs D cI cC cT cL) (ht : time < 60) (hh : h ≤ 60 + time) (G : GS2 nc nt f g h) (hcE : cE ≤ 600130) (hsE : sE ≤ 7301080) (hcl : cells + 112 ≤ cE) (hsl : slots + 674 ≤ sE) (K : LK p l e s m args below meth c Q A0 b D cI cC cT cL x mo wh A B (time + 1) cE sE) (hP : va_P D vwCl (([(mo, .inl (cI, 6, .inl mostA)), (wh, .inl (cI, 5, .inl (fun i => nI (wN i)))), (qc, .inl (cL, nc, .inr (.inr (.inr (.inr (fun i => some (r i))))))), (qt, .inl (cL, nt, .inr (.inr (.inr (.inr (fun i => some (r2 i))))))), (qh, .inl (cI, 10, .inl (cntF nt f g)))] : va_W) ++ (RT cI r2 f nt ++ (RC cI r f nc ++ ((YW cI cC cT x A (B 0) nc nt f g ++ CW cI cC cT B nc2 nt2 f2 g2) ++ (SM cI cL S C T nc nt f g))))) H) (hD : va_D A0 (([(mo, .inl (cI, 6, .inl mostA)), (wh, .inl (cI, 5, .inl (fun i => nI (wN i)))), (qc, .inl (cL, nc, .inr (.inr (.inr (.inr (fun i => some (r i))))))), (qt, .inl (cL, nt, .inr (.inr (.inr (.inr (fun i => some (r2 i))))))), (qh, .inl (cI, 10, .inl (cntF nt f g)))] : va_W) ++ (RT cI r2 f nt ++ (RC cI r f nc ++ ((YW cI cC cT x A (B 0) nc nt f g ++ CW cI cC cT B nc2 nt2 f2 g2) ++ (SM cI cL S C T nc nt f g)))))) (hS : va_S A0 s.heap H locs) (hl : lv_has ls 30 [(11, .ref qh), (10, .ref qt), (9, .ref qc), (8, .int (nI nt)), (7, .int (nI nc)), (5, .int (nI time)), (4, .ref wh), (3, .ref mo), (2, .ref (S 0)), (1, .ref x), (0, .ref b)]) : W p l e room_1 s m args below meth c H locs cells slots Q (F0 m 341 ls []) := by
  obtain ⟨hx, hb, hml, hown, hts, hK, hST, hX, hbl, hbA, hA, hl0, hN⟩ := id EL
  have hAA : va_AOA .int s := hST.2.2.2.2.2.2.2.2.2.1
  obtain ⟨⟨hnc, hnt, hI, hg, h0⟩, hz, hxc, hxt⟩ := id G
  refine lv_aload_n hx hb dL_law_341 rfl (lv_at hl 9 rfl) ?_
  refine c0_V (As := []) (rest := []) (ws' := ([(mo, .inl (cI, 6, .inl mostA)), (wh, .inl (cI, 5, .inl (fun i => nI (wN i)))), (qc, .inl (cL, nc, .inr (.inr (.inr (.inr (fun i => some (r i))))))), (qt, .inl (cL, nt, .inr (.inr (.inr (.inr (fun i => some (r2 i))))))), (qh, .inl (cI, 10, .inl (cntF nt f g)))] : va_W) ++ (RT cI r2 f nt ++ (RC cI r f nc ++ ((YW cI cC cT x A (B 0) nc nt f g ++ CW cI cC cT B nc2 nt2 f2 g2) ++ (SM cI cL S C T nc nt f g))))) ⟨hx, hb, hml, hown, hts⟩ (mX3_digest l D cI cC cT cL x (B 0) A nc nt f g hnc hnt h (by omega) h0) (cwV 0 hts gL_law_X3_digest rfl rfl rfl pX3_digest ⟨by decide, by decide⟩) hK hP hD hS hA hST ((Jf_r _ (Jf_r _ (Jf_r _ (Jf_l _ (Jf_hd _ _ _ yw_fst)))))).1 0 rfl rfl rfl rfl hl.1 rfl (Nat.le_of_ble_eq_true rfl) dL_law_342 ⟨(by show _ ≤ 600130; omega), (by show _ ≤ 7301080; omega)⟩ rfl (fun H locs hP hD hS => ?_)
  refine lv_lstore (lv' := [(12, .long (digF nc nt f g)), (11, .ref qh), (10, .ref qt), (9, .ref qc), (8, .int (nI nt)), (7, .int (nI nc)), (5, .int (nI time)), (4, .ref wh), (3, .ref mo), (2, .ref (S 0)), (1, .ref x), (0, .ref b)]) hx hb dL_law_345 hl (by decide) rfl (fun ls hl => ?_)
  refine lv_bipush (v := 10) hx hb dL_law_347 (by decide) ?_
  refine w_newi hx hb (hts _ acL_law_int) hK hP hD hS hA rfl 10 rfl (by omega) (by show _ ≤ 600130; omega) (by show _ ≤ 7301080; omega) dL_law_349 (fun q1 H hP hD hS => ?_)
  have pm : ((([(mo, .inl (cI, 6, .inl mostA)), (wh, .inl (cI, 5, .inl (fun i => nI (wN i)))), (qc, .inl (cL, nc, .inr (.inr (.inr (.inr (fun i => some (r i))))))), (qt, .inl (cL, nt, .inr (.inr (.inr (.inr (fun i => some (r2 i))))))), (qh, .inl (cI, 10, .inl (cntF nt f g)))] : va_W) ++ (RT cI r2 f nt ++ (RC cI r f nc ++ ((YW cI cC cT x A (B 0) nc nt f g ++ CW cI cC cT B nc2 nt2 f2 g2) ++ (SM cI cL S C T nc nt f g))))) ++ ([(q1, .inl (cI, 10, .inl (fun _ => 0)))] : va_W)).Perm (([(mo, .inl (cI, 6, .inl mostA)), (wh, .inl (cI, 5, .inl (fun i => nI (wN i)))), (qc, .inl (cL, nc, .inr (.inr (.inr (.inr (fun i => some (r i))))))), (qt, .inl (cL, nt, .inr (.inr (.inr (.inr (fun i => some (r2 i))))))), (qh, .inl (cI, 10, .inl (cntF nt f g))), (q1, .inl (cI, 10, .inl (fun _ => 0)))] : va_W) ++ (RT cI r2 f nt ++ (RC cI r f nc ++ ((YW cI cC cT x A (B 0) nc nt f g ++ CW cI cC cT B nc2 nt2 f2 g2) ++ (SM cI cL S C T nc nt f g))))) := pm_new (([(mo, .inl (cI, 6, .inl mostA)), (wh, .inl (cI, 5, .inl (fun i => nI (wN i)))), (qc, .inl (cL, nc, .inr (.inr (.inr (.inr (fun i => some (r i))))))), (qt, .inl (cL, nt, .inr (.inr (.inr (.inr (fun i => some (r2 i))))))), (qh, .inl (cI, 10, .inl (cntF nt f g)))] : va_W)) _ _
  have hP : va_P D vwCl (([(mo, .inl (cI, 6, .inl mostA)), (wh, .inl (cI, 5, .inl (fun i => nI (wN i)))), (qc, .inl (cL, nc, .inr (.inr (.inr (.inr (fun i => some (r i))))))), (qt, .inl (cL, nt, .inr (.inr (.inr (.inr (fun i => some (r2 i))))))), (qh, .inl (cI, 10, .inl (cntF nt f g))), (q1, .inl (cI, 10, .inl (fun _ => 0)))] : va_W) ++ (RT cI r2 f nt ++ (RC cI r f nc ++ ((YW cI cC cT x A (B 0) nc nt f g ++ CW cI cC cT B nc2 nt2 f2 g2) ++ (SM cI cL S C T nc nt f g))))) H := P_pm pm hP
  have hD : va_D A0 (([(mo, .inl (cI, 6, .inl mostA)), (wh, .inl (cI, 5, .inl (fun i => nI (wN i)))), (qc, .inl (cL, nc, .inr (.inr (.inr (.inr (fun i => some (r i))))))), (qt, .inl (cL, nt, .inr (.inr (.inr (.inr (fun i => some (r2 i))))))), (qh, .inl (cI, 10, .inl (cntF nt f g))), (q1, .inl (cI, 10, .inl (fun _ => 0)))] : va_W) ++ (RT cI r2 f nt ++ (RC cI r f nc ++ ((YW cI cC cT x A (B 0) nc nt f g ++ CW cI cC cT B nc2 nt2 f2 g2) ++ (SM cI cL S C T nc nt f g))))) := D_pm pm hD
  refine lv_astore (lv' := [(14, .ref q1), (12, .long (digF nc nt f g)), (11, .ref qh), (10, .ref qt), (9, .ref qc), (8, .int (nI nt)), (7, .int (nI nc)), (5, .int (nI time)), (4, .ref wh), (3, .ref mo), (2, .ref (S 0)), (1, .ref x), (0, .ref b)]) hx hb dL_law_351 hl (by decide) rfl (fun ls hl => ?_)
  refine lv_aload hx hb dL_law_353 (lv_at hl 8 rfl) ?_
  refine lv_astore (lv' := [(15, .ref wh), (14, .ref q1), (12, .long (digF nc nt f g)), (11, .ref qh), (10, .ref qt), (9, .ref qc), (8, .int (nI nt)), (7, .int (nI nc)), (5, .int (nI time)), (4, .ref wh), (3, .ref mo), (2, .ref (S 0)), (1, .ref x), (0, .ref b)]) hx hb dL_law_355 hl (by decide) rfl (fun ls hl => ?_)
  refine lv_aload hx hb dL_law_357 (lv_at hl 0 rfl) ?_
  refine w_alenI hx hb hK hP (List.mem_append_left _ (List.mem_of_getElem? (i := 1) rfl)) rfl dL_law_359 ?_
  refine lv_istore (lv' := [(16, .int (nI 5)), (15, .ref wh), (14, .ref q1), (12, .long (digF nc nt f g)), (11, .ref qh), (10, .ref qt), (9, .ref qc), (8, .int (nI nt)), (7, .int (nI nc)), (5, .int (nI time)), (4, .ref wh), (3, .ref mo), (2, .ref (S 0)), (1, .ref x), (0, .ref b)]) hx hb dL_law_360 hl (by decide) rfl (fun ls hl => ?_)
  refine lv_iconst (v := 0) hx hb dL_law_362 (by decide) ?_
  refine lv_istore (lv' := [(17, .int 0), (16, .int (nI 5)), (15, .ref wh), (14, .ref q1), (12, .long (digF nc nt f g)), (11, .ref qh), (10, .ref qt), (9, .ref qc), (8, .int (nI nt)), (7, .int (nI nc)), (5, .int (nI time)), (4, .ref wh), (3, .ref mo), (2, .ref (S 0)), (1, .ref x), (0, .ref b)]) hx hb dL_law_363 hl (by decide) rfl (fun ls hl => ?_)
  have lp0 : ∀ (n j : Nat), j + n = 5 → ∀ (F : Nat → Int32) (nc2 nt2 : Nat) (f2 g2 : Nat → Int32), (∀ i, i < j → F (wN i) = cntF nt (hourF nc nt g f) g (wN i)) → ∀ (H : Heap) (locs : List Loc), va_P D vwCl (([(mo, .inl (cI, 6, .inl mostA)), (wh, .inl (cI, 5, .inl (fun i => nI (wN i)))), (qc, .inl (cL, nc, .inr (.inr (.inr (.inr (fun i => some (r i))))))), (qt, .inl (cL, nt, .inr (.inr (.inr (.inr (fun i => some (r2 i))))))), (qh, .inl (cI, 10, .inl (cntF nt f g))), (q1, .inl (cI, 10, .inl F))] : va_W) ++ (RT cI r2 f nt ++ (RC cI r f nc ++ ((YW cI cC cT x A (B 0) nc nt f g ++ CW cI cC cT B nc2 nt2 f2 g2) ++ (SM cI cL S C T nc nt f g))))) H → va_D A0 (([(mo, .inl (cI, 6, .inl mostA)), (wh, .inl (cI, 5, .inl (fun i => nI (wN i)))), (qc, .inl (cL, nc, .inr (.inr (.inr (.inr (fun i => some (r i))))))), (qt, .inl (cL, nt, .inr (.inr (.inr (.inr (fun i => some (r2 i))))))), (qh, .inl (cI, 10, .inl (cntF nt f g))), (q1, .inl (cI, 10, .inl F))] : va_W) ++ (RT cI r2 f nt ++ (RC cI r f nc ++ ((YW cI cC cT x A (B 0) nc nt f g ++ CW cI cC cT B nc2 nt2 f2 g2) ++ (SM cI cL S C T nc nt f g))))) → va_S A0 s.heap H locs → ∀ ls, lv_has ls 30 [(17, .int (nI j)), (16, .int (nI 5)), (15, .ref wh), (14, .ref q1), (12, .long (digF nc nt f g)), (11, .ref qh), (10, .ref qt), (9, .ref qc), (8, .int (nI nt)), (7, .int (nI nc)), (5, .int (nI time)), (4, .ref wh), (3, .ref mo), (2, .ref (S 0)), (1, .ref x), (0, .ref b)] → W p l e room_1 s m args below meth c H locs (cells + 1 + 2 * j) (slots + 10 + 12 * j) Q (F0 m 365 ls []) := by
    intro n
    induction n with
    | zero =>
      intro j hj F nc2 nt2 f2 g2 hF H locs hP hD hS ls hl
      have hje : 5 = j := by omega
      subst hje
      refine lv_iload hx hb dL_law_365 (lv_at hl 0 rfl) ?_
      refine lv_iload hx hb dL_law_367 (lv_at hl 1 rfl) ?_
      refine lv_icmp_ge (tgt := 397) hx hb dL_law_369 (by decide) (fun c_369 => ?_) (fun c_369 => ?_)
      rotate_left
      · exact absurd (Int32.le_refl _) c_369
      refine lv_aload_n hx hb dL_law_397 rfl (lv_at hl 14 rfl) ?_
      refine c0_V (As := []) (rest := []) (ws' := ([(mo, .inl (cI, 6, .inl mostA)), (wh, .inl (cI, 5, .inl (fun i => nI (wN i)))), (qc, .inl (cL, nc, .inr (.inr (.inr (.inr (fun i => some (r i))))))), (qt, .inl (cL, nt, .inr (.inr (.inr (.inr (fun i => some (r2 i))))))), (qh, .inl (cI, 10, .inl (cntF nt f g))), (q1, .inl (cI, 10, .inl F))] : va_W) ++ (RT cI r2 f nt ++ (RC cI r f nc ++ ((YW cI cC cT x A (B 0) nc nt f g ++ CW cI cC cT B nc2 nt2 f2 g2) ++ (SM cI cL S C T nc nt f g))))) ⟨hx, hb, hml, hown, hts⟩ (mX3_next l D cI cC cT cL x (B 0) A nc nt f g hnt hI) (cwV 0 hts gL_law_X3_next rfl rfl rfl pX3_next ⟨by decide, by decide⟩) hK hP hD hS hA hST ((Jf_r _ (Jf_r _ (Jf_r _ (Jf_l _ (Jf_hd _ _ _ yw_fst)))))).1 0 rfl rfl rfl rfl hl.1 rfl (Nat.le_of_ble_eq_true rfl) dL_law_398 ⟨(by show _ ≤ 600130; omega), (by show _ ≤ 7301080; omega)⟩ rfl (fun H locs hP hD hS => ?_)
      refine lv_istore (lv' := [(15, .int (nxt f nt)), (17, .int (nI 5)), (16, .int (nI 5)), (14, .ref q1), (12, .long (digF nc nt f g)), (11, .ref qh), (10, .ref qt), (9, .ref qc), (8, .int (nI nt)), (7, .int (nI nc)), (5, .int (nI time)), (4, .ref wh), (3, .ref mo), (2, .ref (S 0)), (1, .ref x), (0, .ref b)]) hx hb dL_law_401 hl (by decide) rfl (fun ls hl => ?_)
      refine lv_aload_n hx hb dL_law_403 rfl (lv_at hl 14 rfl) ?_
      refine c0_V (As := []) (rest := []) (ws' := ([(mo, .inl (cI, 6, .inl mostA)), (wh, .inl (cI, 5, .inl (fun i => nI (wN i)))), (qc, .inl (cL, nc, .inr (.inr (.inr (.inr (fun i => some (r i))))))), (qt, .inl (cL, nt, .inr (.inr (.inr (.inr (fun i => some (r2 i))))))), (qh, .inl (cI, 10, .inl (cntF nt f g))), (q1, .inl (cI, 10, .inl F))] : va_W) ++ (RT cI r2 f nt ++ (RC cI r f nc ++ ((YW cI cC cT x A (B 0) nc nt f g ++ CW cI cC cT B nc2 nt2 f2 g2) ++ (SM cI cL S C T nc nt f g))))) ⟨hx, hb, hml, hown, hts⟩ (mX3_lasts l D cI cC cT cL x (B 0) A nc nt f g h (by omega) h0) (cwV 0 hts gL_law_X3_lasts rfl rfl rfl pX3_lasts ⟨by decide, by decide⟩) hK hP hD hS hA hST ((Jf_r _ (Jf_r _ (Jf_r _ (Jf_l _ (Jf_hd _ _ _ yw_fst)))))).1 0 rfl rfl rfl rfl hl.1 rfl (Nat.le_of_ble_eq_true rfl) dL_law_404 ⟨(by show _ ≤ 600130; omega), (by show _ ≤ 7301080; omega)⟩ rfl (fun H locs hP hD hS => ?_)
      refine lv_istore (lv' := [(16, .int (fd0 (iceN f g h) 1000 0)), (15, .int (nxt f nt)), (17, .int (nI 5)), (14, .ref q1), (12, .long (digF nc nt f g)), (11, .ref qh), (10, .ref qt), (9, .ref qc), (8, .int (nI nt)), (7, .int (nI nc)), (5, .int (nI time)), (4, .ref wh), (3, .ref mo), (2, .ref (S 0)), (1, .ref x), (0, .ref b)]) hx hb dL_law_407 hl (by decide) rfl (fun ls hl => ?_)
      refine lv_iload hx hb dL_law_409 (lv_at hl 9 rfl) ?_
      refine w_newi hx hb (hts _ acL_law_int) hK hP hD hS hA rfl nc rfl (by omega) (by show _ ≤ 600130; omega) (by show _ ≤ 7301080; omega) dL_law_411 (fun q2 H hP hD hS => ?_)
      have pm : ((([(mo, .inl (cI, 6, .inl mostA)), (wh, .inl (cI, 5, .inl (fun i => nI (wN i)))), (qc, .inl (cL, nc, .inr (.inr (.inr (.inr (fun i => some (r i))))))), (qt, .inl (cL, nt, .inr (.inr (.inr (.inr (fun i => some (r2 i))))))), (qh, .inl (cI, 10, .inl (cntF nt f g))), (q1, .inl (cI, 10, .inl F))] : va_W) ++ (RT cI r2 f nt ++ (RC cI r f nc ++ ((YW cI cC cT x A (B 0) nc nt f g ++ CW cI cC cT B nc2 nt2 f2 g2) ++ (SM cI cL S C T nc nt f g))))) ++ ([(q2, .inl (cI, nc, .inl (fun _ => 0)))] : va_W)).Perm (([(mo, .inl (cI, 6, .inl mostA)), (wh, .inl (cI, 5, .inl (fun i => nI (wN i)))), (qc, .inl (cL, nc, .inr (.inr (.inr (.inr (fun i => some (r i))))))), (qt, .inl (cL, nt, .inr (.inr (.inr (.inr (fun i => some (r2 i))))))), (qh, .inl (cI, 10, .inl (cntF nt f g))), (q1, .inl (cI, 10, .inl F)), (q2, .inl (cI, nc, .inl (fun _ => 0)))] : va_W) ++ (RT cI r2 f nt ++ (RC cI r f nc ++ ((YW cI cC cT x A (B 0) nc nt f g ++ CW cI cC cT B nc2 nt2 f2 g2) ++ (SM cI cL S C T nc nt f g))))) := pm_new (([(mo, .inl (cI, 6, .inl mostA)), (wh, .inl (cI, 5, .inl (fun i => nI (wN i)))), (qc, .inl (cL, nc, .inr (.inr (.inr (.inr (fun i => some (r i))))))), (qt, .inl (cL, nt, .inr (.inr (.inr (.inr (fun i => some (r2 i))))))), (qh, .inl (cI, 10, .inl (cntF nt f g))), (q1, .inl (cI, 10, .inl F))] : va_W)) _ _
      have hP : va_P D vwCl (([(mo, .inl (cI, 6, .inl mostA)), (wh, .inl (cI, 5, .inl (fun i => nI (wN i)))), (qc, .inl (cL, nc, .inr (.inr (.inr (.inr (fun i => some (r i))))))), (qt, .inl (cL, nt, .inr (.inr (.inr (.inr (fun i => some (r2 i))))))), (qh, .inl (cI, 10, .inl (cntF nt f g))), (q1, .inl (cI, 10, .inl F)), (q2, .inl (cI, nc, .inl (fun _ => 0)))] : va_W) ++ (RT cI r2 f nt ++ (RC cI r f nc ++ ((YW cI cC cT x A (B 0) nc nt f g ++ CW cI cC cT B nc2 nt2 f2 g2) ++ (SM cI cL S C T nc nt f g))))) H := P_pm pm hP
      have hD : va_D A0 (([(mo, .inl (cI, 6, .inl mostA)), (wh, .inl (cI, 5, .inl (fun i => nI (wN i)))), (qc, .inl (cL, nc, .inr (.inr (.inr (.inr (fun i => some (r i))))))), (qt, .inl (cL, nt, .inr (.inr (.inr (.inr (fun i => some (r2 i))))))), (qh, .inl (cI, 10, .inl (cntF nt f g))), (q1, .inl (cI, 10, .inl F)), (q2, .inl (cI, nc, .inl (fun _ => 0)))] : va_W) ++ (RT cI r2 f nt ++ (RC cI r f nc ++ ((YW cI cC cT x A (B 0) nc nt f g ++ CW cI cC cT B nc2 nt2 f2 g2) ++ (SM cI cL S C T nc nt f g))))) := D_pm pm hD
      refine lv_astore (lv' := [(17, .ref q2), (16, .int (fd0 (iceN f g h) 1000 0)), (15, .int (nxt f nt)), (14, .ref q1), (12, .long (digF nc nt f g)), (11, .ref qh), (10, .ref qt), (9, .ref qc), (8, .int (nI nt)), (7, .int (nI nc)), (5, .int (nI time)), (4, .ref wh), (3, .ref mo), (2, .ref (S 0)), (1, .ref x), (0, .ref b)]) hx hb dL_law_413 hl (by decide) rfl (fun ls hl => ?_)
      refine lv_iconst (v := 0) hx hb dL_law_415 (by decide) ?_
      refine lv_istore (lv' := [(18, .int 0), (17, .ref q2), (16, .int (fd0 (iceN f g h) 1000 0)), (15, .int (nxt f nt)), (14, .ref q1), (12, .long (digF nc nt f g)), (11, .ref qh), (10, .ref qt), (9, .ref qc), (8, .int (nI nt)), (7, .int (nI nc)), (5, .int (nI time)), (4, .ref wh), (3, .ref mo), (2, .ref (S 0)), (1, .ref x), (0, .ref b)]) hx hb dL_law_416 hl (by decide) rfl (fun ls hl => ?_)
      have lp1 : ∀ (n j : Nat), j + n = nc → ∀ (F2 : Nat → Int32), (∀ i, i < j → F2 i = doneC f g h i) → ∀ (H : Heap) (locs : List Loc), va_P D vwCl (([(mo, .inl (cI, 6, .inl mostA)), (wh, .inl (cI, 5, .inl (fun i => nI (wN i)))), (qc, .inl (cL, nc, .inr (.inr (.inr (.inr (fun i => some (r i))))))), (qt, .inl (cL, nt, .inr (.inr (.inr (.inr (fun i => some (r2 i))))))), (qh, .inl (cI, 10, .inl (cntF nt f g))), (q1, .inl (cI, 10, .inl F)), (q2, .inl (cI, nc, .inl F2))] : va_W) ++ (RT cI r2 f nt ++ (RC cI r f nc ++ ((YW cI cC cT x A (B 0) nc nt f g ++ CW cI cC cT B nc2 nt2 f2 g2) ++ (SM cI cL S C T nc nt f g))))) H → va_D A0 (([(mo, .inl (cI, 6, .inl mostA)), (wh, .inl (cI, 5, .inl (fun i => nI (wN i)))), (qc, .inl (cL, nc, .inr (.inr (.inr (.inr (fun i => some (r i))))))), (qt, .inl (cL, nt, .inr (.inr (.inr (.inr (fun i => some (r2 i))))))), (qh, .inl (cI, 10, .inl (cntF nt f g))), (q1, .inl (cI, 10, .inl F)), (q2, .inl (cI, nc, .inl F2))] : va_W) ++ (RT cI r2 f nt ++ (RC cI r f nc ++ ((YW cI cC cT x A (B 0) nc nt f g ++ CW cI cC cT B nc2 nt2 f2 g2) ++ (SM cI cL S C T nc nt f g))))) → va_S A0 s.heap H locs → ∀ ls, lv_has ls 30 [(18, .int (nI j)), (17, .ref q2), (16, .int (fd0 (iceN f g h) 1000 0)), (15, .int (nxt f nt)), (14, .ref q1), (12, .long (digF nc nt f g)), (11, .ref qh), (10, .ref qt), (9, .ref qc), (8, .int (nI nt)), (7, .int (nI nc)), (5, .int (nI time)), (4, .ref wh), (3, .ref mo), (2, .ref (S 0)), (1, .ref x), (0, .ref b)] → W p l e room_1 s m args below meth c H locs (cells + 12 + j) (slots + 74 + 6 * j) Q (F0 m 418 ls []) := by
        intro n
        induction n with
        | zero =>
          intro j hj F2 hF2 H locs hP hD hS ls hl
          have hje : nc = j := by omega
          subst hje
          refine lv_iload hx hb dL_law_418 (lv_at hl 0 rfl) ?_
          refine lv_iload hx hb dL_law_420 (lv_at hl 10 rfl) ?_
          refine lv_icmp_ge (tgt := 442) hx hb dL_law_422 (by decide) (fun c_422 => ?_) (fun c_422 => ?_)
          rotate_left
          · exact absurd (Int32.le_refl _) c_422
          refine lv_aload_n hx hb dL_law_442 rfl (lv_at hl 15 rfl) ?_
          refine c0_V (As := []) (rest := []) (ws' := ([(mo, .inl (cI, 6, .inl mostA)), (wh, .inl (cI, 5, .inl (fun i => nI (wN i)))), (qc, .inl (cL, nc, .inr (.inr (.inr (.inr (fun i => some (r i))))))), (qt, .inl (cL, nt, .inr (.inr (.inr (.inr (fun i => some (r2 i))))))), (qh, .inl (cI, 10, .inl (cntF nt f g))), (q1, .inl (cI, 10, .inl F)), (q2, .inl (cI, nc, .inl F2))] : va_W) ++ (RT cI r2 f nt ++ (RC cI r f nc ++ ((YW cI cC cT x A (B 0) nc nt f g ++ CW cI cC cT B nc2 nt2 f2 g2) ++ (SM cI cL S C T nc nt f g))))) ⟨hx, hb, hml, hown, hts⟩ (mX3_digest l D cI cC cT cL x (B 0) A nc nt f g hnc hnt h (by omega) h0) (cwV 0 hts gL_law_X3_digest rfl rfl rfl pX3_digest ⟨by decide, by decide⟩) hK hP hD hS hA hST ((Jf_r _ (Jf_r _ (Jf_r _ (Jf_l _ (Jf_hd _ _ _ yw_fst)))))).1 0 rfl rfl rfl rfl hl.1 rfl (Nat.le_of_ble_eq_true rfl) dL_law_443 ⟨(by show _ ≤ 600130; omega), (by show _ ≤ 7301080; omega)⟩ rfl (fun H locs hP hD hS => ?_)
          refine lv_lload hx hb dL_law_446 (lv_at hl 5 rfl) ?_
          refine W.lcmp hx hb dL_law_448 ?_
          rw [lg_self]
          refine lv_if_ne (tgt := 492) hx hb dL_law_449 (by decide) (fun c_449 => ?_) (fun c_449 => ?_)
          · exact absurd rfl c_449
          refine lv_iload hx hb dL_law_452 (lv_at hl 2 rfl) ?_
          refine lv_if_ne (tgt := 461) hx hb dL_law_454 (by decide) (fun c_454 => ?_) (fun c_454 => ?_)
          ·
            refine lv_iconst (v := 0) hx hb dL_law_461 (by decide) ?_
            refine lv_aload hx hb dL_law_462 (lv_at hl 6 rfl) ?_
            refine lv_iconst (v := 2) hx hb dL_law_464 (by decide) ?_
            refine w_ildM hx hb hK hP (List.mem_append_left _ (List.mem_of_getElem? (i := 4) rfl)) rfl 2 rfl (by decide) (by decide) (v := (cntF nt f g) 2) rfl dL_law_465 ?_
            refine lv_if_ne (tgt := 473) hx hb dL_law_466 (by decide) (fun c_466 => ?_) (fun c_466 => ?_)
            rotate_left
            · exact absurd (lasts_0.mpr c_466) c_454
            refine lv_iconst (v := 0) hx hb dL_law_473 (by decide) ?_
            refine lv_icmp_ne (tgt := 492) hx hb dL_law_474 (by decide) (fun c_474 => ?_) (fun c_474 => ?_)
            · exact absurd rfl c_474
            refine lv_iload hx hb dL_law_477 (lv_at hl 3 rfl) ?_
            refine lv_if_lt (tgt := 494) hx hb dL_law_479 (by decide) (fun c_479 => ?_) (fun c_479 => ?_)
            ·
              exact W.widen (by omega) (by omega) (law_4 EL ht hh G hcE hsE (cells := cells + 16) (slots := slots + 98) (by omega) (by omega) K hF hF2 hP hD hS (lv_sub hl [1, 2, 3, 4, 6, 7, 8, 9, 10, 11, 12, 13, 14, 15, 16] rfl))
            ·
              obtain ⟨k, hk, ek, hk0, -⟩ := nx_k hnt c_479
              refine lv_aload hx hb dL_law_482 (lv_at hl 7 rfl) ?_
              refine lv_iload hx hb dL_law_484 (lv_at hl 3 rfl) ?_
              refine w_qldA hx hb hK hP (List.mem_append_left _ (List.mem_of_getElem? (i := 3) rfl)) rfl k ek hk (by omega) (v := r2 k) rfl dL_law_486 ?_
              refine lv_iconst (v := 0) hx hb dL_law_487 (by decide) ?_
              refine w_ildM hx hb hK hP (List.mem_append_right _ (List.mem_append_left _ (List.mem_of_getElem? (rt_get hk)))) rfl 0 rfl (by decide) (by decide) (v := f (19 + 3 * k)) rfl dL_law_488 ?_
              refine lv_if_ne (tgt := 494) hx hb dL_law_489 (by decide) (fun c_489 => ?_) (fun c_489 => ?_)
              rotate_left
              · exact absurd c_489 (fun q => by rw [q] at hk0; exact absurd hk0 (by decide))
              exact W.widen (by omega) (by omega) (law_4 EL ht hh G hcE hsE (cells := cells + 16) (slots := slots + 98) (by omega) (by omega) K hF hF2 hP hD hS (lv_sub hl [1, 2, 3, 4, 6, 7, 8, 9, 10, 11, 12, 13, 14, 15, 16] rfl))
          ·
            refine lv_iconst (v := 1) hx hb dL_law_457 (by decide) ?_
            refine lv_goto (tgt := 462) hx hb dL_law_458 (by decide) ?_
            refine lv_aload hx hb dL_law_462 (lv_at hl 6 rfl) ?_
            refine lv_iconst (v := 2) hx hb dL_law_464 (by decide) ?_
            refine w_ildM hx hb hK hP (List.mem_append_left _ (List.mem_of_getElem? (i := 4) rfl)) rfl 2 rfl (by decide) (by decide) (v := (cntF nt f g) 2) rfl dL_law_465 ?_
            refine lv_if_ne (tgt := 473) hx hb dL_law_466 (by decide) (fun c_466 => ?_) (fun c_466 => ?_)
            · exact absurd (lasts_0.mp c_454) c_466
            refine lv_iconst (v := 1) hx hb dL_law_469 (by decide) ?_
            refine lv_goto (tgt := 474) hx hb dL_law_470 (by decide) ?_
            refine lv_icmp_ne (tgt := 492) hx hb dL_law_474 (by decide) (fun c_474 => ?_) (fun c_474 => ?_)
            · exact absurd rfl c_474
            refine lv_iload hx hb dL_law_477 (lv_at hl 3 rfl) ?_
            refine lv_if_lt (tgt := 494) hx hb dL_law_479 (by decide) (fun c_479 => ?_) (fun c_479 => ?_)
            ·
              exact W.widen (by omega) (by omega) (law_4 EL ht hh G hcE hsE (cells := cells + 16) (slots := slots + 98) (by omega) (by omega) K hF hF2 hP hD hS (lv_sub hl [1, 2, 3, 4, 6, 7, 8, 9, 10, 11, 12, 13, 14, 15, 16] rfl))
            ·
              obtain ⟨k, hk, ek, hk0, -⟩ := nx_k hnt c_479
              refine lv_aload hx hb dL_law_482 (lv_at hl 7 rfl) ?_
              refine lv_iload hx hb dL_law_484 (lv_at hl 3 rfl) ?_
              refine w_qldA hx hb hK hP (List.mem_append_left _ (List.mem_of_getElem? (i := 3) rfl)) rfl k ek hk (by omega) (v := r2 k) rfl dL_law_486 ?_
              refine lv_iconst (v := 0) hx hb dL_law_487 (by decide) ?_
              refine w_ildM hx hb hK hP (List.mem_append_right _ (List.mem_append_left _ (List.mem_of_getElem? (rt_get hk)))) rfl 0 rfl (by decide) (by decide) (v := f (19 + 3 * k)) rfl dL_law_488 ?_
              refine lv_if_ne (tgt := 494) hx hb dL_law_489 (by decide) (fun c_489 => ?_) (fun c_489 => ?_)
              rotate_left
              · exact absurd c_489 (fun q => by rw [q] at hk0; exact absurd hk0 (by decide))
              exact W.widen (by omega) (by omega) (law_4 EL ht hh G hcE hsE (cells := cells + 16) (slots := slots + 98) (by omega) (by omega) K hF hF2 hP hD hS (lv_sub hl [1, 2, 3, 4, 6, 7, 8, 9, 10, 11, 12, 13, 14, 15, 16] rfl))
        | succ n ih =>
          intro j hj F2 hF2 H locs hP hD hS ls hl
          refine lv_iload hx hb dL_law_418 (lv_at hl 0 rfl) ?_
          refine lv_iload hx hb dL_law_420 (lv_at hl 10 rfl) ?_
          refine lv_icmp_ge (tgt := 442) hx hb dL_law_422 (by decide) (fun c_422 => ?_) (fun c_422 => ?_)
          · exact absurd c_422 (nI_ge (by omega) (by omega))
          refine lv_aload hx hb dL_law_425 (lv_at hl 1 rfl) ?_
          refine lv_iload hx hb dL_law_427 (lv_at hl 0 rfl) ?_
          refine lv_aload_n hx hb dL_law_429 rfl (lv_at hl 15 rfl) ?_
          refine lv_iload hx hb dL_law_430 (lv_at hl 0 rfl) ?_
          refine c1_V0 (xe_no (k_done (n := nc) (i := j) (by omega) (by omega))) (As := [.int (nI j)]) (rest := [.int (nI j), .ref q2]) (ws' := ([(mo, .inl (cI, 6, .inl mostA)), (wh, .inl (cI, 5, .inl (fun i => nI (wN i)))), (qc, .inl (cL, nc, .inr (.inr (.inr (.inr (fun i => some (r i))))))), (qt, .inl (cL, nt, .inr (.inr (.inr (.inr (fun i => some (r2 i))))))), (qh, .inl (cI, 10, .inl (cntF nt f g))), (q1, .inl (cI, 10, .inl F)), (q2, .inl (cI, nc, .inl F2))] : va_W) ++ (RT cI r2 f nt ++ (RC cI r f nc ++ ((YW cI cC cT x A (B 0) nc nt f g ++ CW cI cC cT B nc2 nt2 f2 g2) ++ (SM cI cL S C T nc nt f g))))) ⟨hx, hb, hml, hown, hts⟩ (mX3_done l D cI cC cT cL hl0 x (B 0) A nc nt f g (nI j) hnc h (by omega) h0) (cwV 1 hts gL_law_X3_done rfl rfl rfl pX3_done ⟨by decide, by decide⟩) hK hP hD hS hA hST ((Jf_r _ (Jf_r _ (Jf_r _ (Jf_l _ (Jf_hd _ _ _ yw_fst)))))).1 ((Jf_r _ (Jf_r _ (Jf_r _ (Jf_l _ (Jf_hd _ _ _ yw_fst)))))).1 0 rfl rfl rfl rfl hl.1 rfl (Nat.le_of_ble_eq_true rfl) dL_law_432 ⟨(by show _ ≤ 600130; omega), (by show _ ≤ 7301080; omega)⟩ rfl (fun H locs hP hD hS => ?_)
          rw [nI_clamp (n := j) (by omega)]
          refine w_istJ (ws' := ([(mo, .inl (cI, 6, .inl mostA)), (wh, .inl (cI, 5, .inl (fun i => nI (wN i)))), (qc, .inl (cL, nc, .inr (.inr (.inr (.inr (fun i => some (r i))))))), (qt, .inl (cL, nt, .inr (.inr (.inr (.inr (fun i => some (r2 i))))))), (qh, .inl (cI, 10, .inl (cntF nt f g))), (q1, .inl (cI, 10, .inl F)), (q2, .inl (cI, nc, .inl (upd F2 j (doneC f g h j))))] : va_W) ++ (RT cI r2 f nt ++ (RC cI r f nc ++ ((YW cI cC cT x A (B 0) nc nt f g ++ CW cI cC cT B nc2 nt2 f2 g2) ++ (SM cI cL S C T nc nt f g))))) hx hb hK hP hD hS j (Jf_l _ (Jf_set 6 rfl rfl)) rfl rfl (by omega) (by omega) dL_law_435 (fun H locs hP hD hS => ?_)
          refine lv_iinc (v := nI (j + 1)) (lv' := [(18, .int (nI (j + 1))), (17, .ref q2), (16, .int (fd0 (iceN f g h) 1000 0)), (15, .int (nxt f nt)), (14, .ref q1), (12, .long (digF nc nt f g)), (11, .ref qh), (10, .ref qt), (9, .ref qc), (8, .int (nI nt)), (7, .int (nI nc)), (5, .int (nI time)), (4, .ref wh), (3, .ref mo), (2, .ref (S 0)), (1, .ref x), (0, .ref b)]) hx hb dL_law_436 hl (k := 0) rfl (nI_succ _).symm (by decide) rfl (fun ls hl => ?_)
          refine lv_goto (tgt := 418) hx hb dL_law_439 (by decide) ?_
          exact W.widen (by omega) (by omega) (ih (j + 1) (by omega) _ (snap1 hF2) _ _ hP hD hS _ (lv_sub hl [0, 1, 2, 3, 4, 5, 6, 7, 8, 9, 10, 11, 12, 13, 14, 15, 16] rfl))
      exact W.widen (by omega) (by omega) (lp1 nc 0 (by omega) (fun _ => 0) (fun i hi => absurd hi (Nat.not_lt_zero _)) _ _ hP hD hS _ (lv_sub hl [0, 1, 2, 3, 4, 5, 6, 7, 8, 9, 10, 11, 12, 13, 14, 15, 16] rfl))
    | succ n ih =>
      intro j hj F nc2 nt2 f2 g2 hF H locs hP hD hS ls hl
      have hw9 : wN j < 10 := wN_lt j
      refine lv_iload hx hb dL_law_365 (lv_at hl 0 rfl) ?_
      refine lv_iload hx hb dL_law_367 (lv_at hl 1 rfl) ?_
      refine lv_icmp_ge (tgt := 397) hx hb dL_law_369 (by decide) (fun c_369 => ?_) (fun c_369 => ?_)
      · exact absurd c_369 (nI_ge (by omega) (by omega))
      refine lv_aload hx hb dL_law_372 (lv_at hl 2 rfl) ?_
      refine lv_iload hx hb dL_law_374 (lv_at hl 0 rfl) ?_
      refine w_ildM hx hb hK hP (List.mem_append_left _ (List.mem_of_getElem? (i := 1) rfl)) rfl j rfl (by omega) (by decide) (v := nI (wN j)) rfl dL_law_376 ?_
      refine lv_istore (lv' := [(18, .int (nI (wN j))), (17, .int (nI j)), (16, .int (nI 5)), (15, .ref wh), (14, .ref q1), (12, .long (digF nc nt f g)), (11, .ref qh), (10, .ref qt), (9, .ref qc), (8, .int (nI nt)), (7, .int (nI nc)), (5, .int (nI time)), (4, .ref wh), (3, .ref mo), (2, .ref (S 0)), (1, .ref x), (0, .ref b)]) hx hb dL_law_377 hl (by decide) rfl (fun ls hl => ?_)
      refine lv_aload hx hb dL_law_379 (lv_at hl 4 rfl) ?_
      refine lv_iload hx hb dL_law_381 (lv_at hl 0 rfl) ?_
      refine lv_aload_n hx hb dL_law_383 rfl (lv_at hl 15 rfl) ?_
      refine lv_iconst (v := 1) hx hb dL_law_384 (by decide) ?_
      refine lv_iload hx hb dL_law_385 (lv_at hl 0 rfl) ?_
      refine c1_V0 (xe_no (k_fore j)) (As := [.int 1, .int (nI (wN j))]) (rest := [.int (nI (wN j)), .ref q1]) (ws' := ([(mo, .inl (cI, 6, .inl mostA)), (wh, .inl (cI, 5, .inl (fun i => nI (wN i)))), (qc, .inl (cL, nc, .inr (.inr (.inr (.inr (fun i => some (r i))))))), (qt, .inl (cL, nt, .inr (.inr (.inr (.inr (fun i => some (r2 i))))))), (qh, .inl (cI, 10, .inl (cntF nt f g))), (q1, .inl (cI, 10, .inl F))] : va_W) ++ (RT cI r2 f nt ++ (RC cI r f nc ++ ((YW cI cC cT x A (B 0) nc nt f g ++ CW cI cC cT B nc nt (rep (hourF nc nt g) (1 : Int32).toNatClampNeg f) g) ++ (SM cI cL S C T nc nt f g))))) ⟨hx, hb, hml, hown, hts⟩ (mX3_foresee l D cI cC cT cL hl0 x A B nc nt f g nc2 nt2 f2 g2 1 (nI (wN j)) hnc hnt hI hg h (by omega) h0) (cwV 2 hts gL_law_X3_foresee rfl rfl rfl pX3_foresee ⟨by decide, by decide⟩) hK hP hD hS hA hST ((Jf_r _ (Jf_r _ (Jf_r _ (Jf_l _ (Jf_all _ _ ywcw_fst)))))).1 ((Jf_r _ (Jf_r _ (Jf_r _ (Jf_l _ (Jf_all _ _ ywcw_fst)))))).1 0 rfl rfl rfl rfl hl.1 rfl (Nat.le_of_ble_eq_true rfl) dL_law_387 ⟨(by show _ ≤ 600130; omega), (by show _ ≤ 7301080; omega)⟩ rfl (fun H locs hP hD hS => ?_)
      rw [show (1 : Int32).toNatClampNeg = 1 from rfl] at hP hD ⊢
      rw [nI_clamp (n := wN j) (by omega)]
      have hP : va_P D vwCl (([(mo, .inl (cI, 6, .inl mostA)), (wh, .inl (cI, 5, .inl (fun i => nI (wN i)))), (qc, .inl (cL, nc, .inr (.inr (.inr (.inr (fun i => some (r i))))))), (qt, .inl (cL, nt, .inr (.inr (.inr (.inr (fun i => some (r2 i))))))), (qh, .inl (cI, 10, .inl (cntF nt f g))), (q1, .inl (cI, 10, .inl F))] : va_W) ++ (RT cI r2 f nt ++ (RC cI r f nc ++ ((YW cI cC cT x A (B 0) nc nt f g ++ CW cI cC cT B nc nt (hourF nc nt g f) g) ++ (SM cI cL S C T nc nt f g))))) H := hP
      have hD : va_D A0 (([(mo, .inl (cI, 6, .inl mostA)), (wh, .inl (cI, 5, .inl (fun i => nI (wN i)))), (qc, .inl (cL, nc, .inr (.inr (.inr (.inr (fun i => some (r i))))))), (qt, .inl (cL, nt, .inr (.inr (.inr (.inr (fun i => some (r2 i))))))), (qh, .inl (cI, 10, .inl (cntF nt f g))), (q1, .inl (cI, 10, .inl F))] : va_W) ++ (RT cI r2 f nt ++ (RC cI r f nc ++ ((YW cI cC cT x A (B 0) nc nt f g ++ CW cI cC cT B nc nt (hourF nc nt g f) g) ++ (SM cI cL S C T nc nt f g))))) := hD
      refine W.eq (g2 := F0 m 390 ls [.int (cntF nt (hourF nc nt g f) g (wN j)), .int (nI (wN j)), .ref q1]) rfl ?_
      refine w_istJ (ws' := ([(mo, .inl (cI, 6, .inl mostA)), (wh, .inl (cI, 5, .inl (fun i => nI (wN i)))), (qc, .inl (cL, nc, .inr (.inr (.inr (.inr (fun i => some (r i))))))), (qt, .inl (cL, nt, .inr (.inr (.inr (.inr (fun i => some (r2 i))))))), (qh, .inl (cI, 10, .inl (cntF nt f g))), (q1, .inl (cI, 10, .inl (upd F (wN j) (cntF nt (hourF nc nt g f) g (wN j)))))] : va_W) ++ (RT cI r2 f nt ++ (RC cI r f nc ++ ((YW cI cC cT x A (B 0) nc nt f g ++ CW cI cC cT B nc nt (hourF nc nt g f) g) ++ (SM cI cL S C T nc nt f g))))) hx hb hK hP hD hS (wN j) (Jf_l _ (Jf_set 5 rfl rfl)) rfl rfl (by omega) (by decide) dL_law_390 (fun H locs hP hD hS => ?_)
      refine lv_iinc (v := nI (j + 1)) (lv' := [(17, .int (nI (j + 1))), (18, .int (nI (wN j))), (16, .int (nI 5)), (15, .ref wh), (14, .ref q1), (12, .long (digF nc nt f g)), (11, .ref qh), (10, .ref qt), (9, .ref qc), (8, .int (nI nt)), (7, .int (nI nc)), (5, .int (nI time)), (4, .ref wh), (3, .ref mo), (2, .ref (S 0)), (1, .ref x), (0, .ref b)]) hx hb dL_law_391 hl (k := 1) rfl (nI_succ _).symm (by decide) rfl (fun ls hl => ?_)
      refine lv_goto (tgt := 365) hx hb dL_law_394 (by decide) ?_
      exact W.widen (by omega) (by omega) (ih (j + 1) (by omega) _ _ _ _ _ (snapW hF) _ _ hP hD hS _ (lv_sub hl [0, 2, 3, 4, 5, 6, 7, 8, 9, 10, 11, 12, 13, 14, 15, 16] rfl))
  exact W.widen (by omega) (by omega) (lp0 5 0 (by omega) (fun _ => 0) nc2 nt2 f2 g2 (fun i hi => absurd hi (Nat.not_lt_zero _)) _ _ hP hD hS _ (lv_sub hl [0, 1, 2, 3, 4, 5, 6, 7, 8, 9, 10, 11, 12, 13, 14, 15] rfl))
