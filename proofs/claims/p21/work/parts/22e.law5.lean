set_option maxHeartbeats 4000000 in
set_option maxRecDepth 100000 in
theorem law_5 {p : Program} {l : Launch} {e : Env} {s : State} {m : MethodId} {args : Array Value} {below : List Frame} {meth : Method} {c : Code} {Q : State → Prop} {A0 : Nat → Prop} {b L : Nat} {xs : Nat → Int32} {D : va_G} {cI cC cT cL : ClassId} {x mo wh : Nat} {A B : Nat → Nat} {time cE sE cells slots : Nat} {S C T : Nat → Nat} {nc nt h : Nat} {f g : Nat → Int32} {nc2 nt2 : Nat} {f2 g2 : Nat → Int32} {H : Heap} {locs : List Loc} {ls : Array Slot} {qc qt qh qn qd : Nat} {r r2 : Nat → Nat} {th dn : Nat → Int32} (EL : LE p l s m args c A0 b L xs D cI cC cT cL) (ht : time < 60) (hh : h ≤ 60 + time) (G : GS2 nc nt f g h) (hcE : cE ≤ 600130) (hsE : sE ≤ 7301080) (hcl : cells + 96 ≤ cE) (hsl : slots + 576 ≤ sE) (K : LK p l e s m args below meth c Q A0 b D cI cC cT cL x mo wh A B (time + 1) cE sE) (hth : ∀ i, i < 5 → th (wN i) = cntF nt (hourF nc nt g f) g (wN i)) (hdn : ∀ i, i < nc → dn i = doneC f g h i) (hP : va_P D vwCl (([(mo, .inl (cI, 6, .inl mostA)), (wh, .inl (cI, 5, .inl (fun i => nI (wN i)))), (qc, .inl (cL, nc, .inr (.inr (.inr (.inr (fun i => some (r i))))))), (qt, .inl (cL, nt, .inr (.inr (.inr (.inr (fun i => some (r2 i))))))), (qh, .inl (cI, 10, .inl (cntF nt f g))), (qn, .inl (cI, 10, .inl th)), (qd, .inl (cI, nc, .inl dn))] : va_W) ++ (RT cI r2 f nt ++ (RC cI r f nc ++ ((YW cI cC cT x A (B 0) nc nt f g ++ CW cI cC cT B nc2 nt2 f2 g2) ++ (SM cI cL S C T nc nt f g))))) H) (hD : va_D A0 (([(mo, .inl (cI, 6, .inl mostA)), (wh, .inl (cI, 5, .inl (fun i => nI (wN i)))), (qc, .inl (cL, nc, .inr (.inr (.inr (.inr (fun i => some (r i))))))), (qt, .inl (cL, nt, .inr (.inr (.inr (.inr (fun i => some (r2 i))))))), (qh, .inl (cI, 10, .inl (cntF nt f g))), (qn, .inl (cI, 10, .inl th)), (qd, .inl (cI, nc, .inl dn))] : va_W) ++ (RT cI r2 f nt ++ (RC cI r f nc ++ ((YW cI cC cT x A (B 0) nc nt f g ++ CW cI cC cT B nc2 nt2 f2 g2) ++ (SM cI cL S C T nc nt f g)))))) (hS : va_S A0 s.heap H locs) (hl : lv_has ls 30 [(17, .ref qd), (16, .int (fd0 (iceN f g h) 1000 0)), (14, .ref qn), (11, .ref qh), (10, .ref qt), (9, .ref qc), (8, .int (nI nt)), (7, .int (nI nc)), (5, .int (nI time)), (4, .ref wh), (3, .ref mo), (2, .ref (S 0)), (1, .ref x), (0, .ref b)]) : W p l e room_1 s m args below meth c H locs cells slots Q (F0 m 568 ls []) := by
  obtain ⟨hx, hb, hml, hown, hts, hK, hST, hX, hbl, hbA, hA, hl0, hN⟩ := id EL
  have hAA : va_AOA .int s := hST.2.2.2.2.2.2.2.2.2.1
  obtain ⟨⟨hnc, hnt, hI, hg, h0⟩, hz, hxc, hxt⟩ := id G
  refine lv_aload_n hx hb dL_law_568 rfl (lv_at hl 12 rfl) ?_
  refine lv_iconst (v := 1) hx hb dL_law_569 (by decide) ?_
  refine c1_V0 (xe_no k_pass1) (As := [.int 1]) (rest := []) (ws' := ([(mo, .inl (cI, 6, .inl mostA)), (wh, .inl (cI, 5, .inl (fun i => nI (wN i)))), (qc, .inl (cL, nc, .inr (.inr (.inr (.inr (fun i => some (r i))))))), (qt, .inl (cL, nt, .inr (.inr (.inr (.inr (fun i => some (r2 i))))))), (qh, .inl (cI, 10, .inl (cntF nt f g))), (qn, .inl (cI, 10, .inl th)), (qd, .inl (cI, nc, .inl dn))] : va_W) ++ (RT cI r2 f nt ++ (RC cI r f nc ++ ((YW cI cC cT x A (B 0) nc nt (rep (hourF nc nt g) (1 : Int32).toNatClampNeg f) g ++ CW cI cC cT B nc2 nt2 f2 g2) ++ (SM cI cL S C T nc nt f g))))) ⟨hx, hb, hml, hown, hts⟩ (mX3_pass l D cI cC cT cL hl0 x (B 0) A nc nt f g 1 hnc hnt hI hg h (by omega) h0) (cwV 1 hts gL_law_X3_pass rfl rfl rfl pX3_pass ⟨by decide, by decide⟩) hK hP hD hS hA hST ((Jf_r _ (Jf_r _ (Jf_r _ (Jf_l _ (Jf_hd _ _ _ yw_fst)))))).1 ((Jf_r _ (Jf_r _ (Jf_r _ (Jf_l _ (Jf_hd _ _ _ yw_fst)))))).1 0 rfl rfl rfl rfl hl.1 rfl (Nat.le_of_ble_eq_true rfl) dL_law_570 ⟨(by show _ ≤ 600130; omega), (by show _ ≤ 7301080; omega)⟩ rfl (fun H locs hP hD hS => ?_)
  rw [show (1 : Int32).toNatClampNeg = 1 from rfl] at hP hD ⊢
  have hP : va_P D vwCl (([(mo, .inl (cI, 6, .inl mostA)), (wh, .inl (cI, 5, .inl (fun i => nI (wN i)))), (qc, .inl (cL, nc, .inr (.inr (.inr (.inr (fun i => some (r i))))))), (qt, .inl (cL, nt, .inr (.inr (.inr (.inr (fun i => some (r2 i))))))), (qh, .inl (cI, 10, .inl (cntF nt f g))), (qn, .inl (cI, 10, .inl th)), (qd, .inl (cI, nc, .inl dn))] : va_W) ++ (RT cI r2 f nt ++ (RC cI r f nc ++ ((YW cI cC cT x A (B 0) nc nt (hourF nc nt g f) g ++ CW cI cC cT B nc2 nt2 f2 g2) ++ (SM cI cL S C T nc nt f g))))) H := hP
  have hD : va_D A0 (([(mo, .inl (cI, 6, .inl mostA)), (wh, .inl (cI, 5, .inl (fun i => nI (wN i)))), (qc, .inl (cL, nc, .inr (.inr (.inr (.inr (fun i => some (r i))))))), (qt, .inl (cL, nt, .inr (.inr (.inr (.inr (fun i => some (r2 i))))))), (qh, .inl (cI, 10, .inl (cntF nt f g))), (qn, .inl (cI, 10, .inl th)), (qd, .inl (cI, nc, .inl dn))] : va_W) ++ (RT cI r2 f nt ++ (RC cI r f nc ++ ((YW cI cC cT x A (B 0) nc nt (hourF nc nt g f) g ++ CW cI cC cT B nc2 nt2 f2 g2) ++ (SM cI cL S C T nc nt f g))))) := hD
  refine W.eq (g2 := F0 m 573 ls [.int ((hourF nc nt g f) 5 - f 5)]) rfl ?_
  refine lv_istore (lv' := [(18, .int ((hourF nc nt g f) 5 - f 5)), (17, .ref qd), (16, .int (fd0 (iceN f g h) 1000 0)), (14, .ref qn), (11, .ref qh), (10, .ref qt), (9, .ref qc), (8, .int (nI nt)), (7, .int (nI nc)), (5, .int (nI time)), (4, .ref wh), (3, .ref mo), (2, .ref (S 0)), (1, .ref x), (0, .ref b)]) hx hb dL_law_573 hl (by decide) rfl (fun ls hl => ?_)
  refine lv_iload hx hb dL_law_575 (lv_at hl 0 rfl) ?_
  refine lv_aload_n hx hb dL_law_577 rfl (lv_at hl 12 rfl) ?_
  refine c0_V (As := []) (rest := [.int ((hourF nc nt g f) 5 - f 5)]) (ws' := ([(mo, .inl (cI, 6, .inl mostA)), (wh, .inl (cI, 5, .inl (fun i => nI (wN i)))), (qc, .inl (cL, nc, .inr (.inr (.inr (.inr (fun i => some (r i))))))), (qt, .inl (cL, nt, .inr (.inr (.inr (.inr (fun i => some (r2 i))))))), (qh, .inl (cI, 10, .inl (cntF nt f g))), (qn, .inl (cI, 10, .inl th)), (qd, .inl (cI, nc, .inl dn))] : va_W) ++ (RT cI r2 f nt ++ (RC cI r f nc ++ ((YW cI cC cT x A (B 0) nc nt (hourF nc nt g f) g ++ CW cI cC cT B nc2 nt2 f2 g2) ++ (SM cI cL S C T nc nt (hourF nc nt g f) g))))) ⟨hx, hb, hml, hown, hts⟩ (mX4_pass l D cI cC cT cL S C T nc nt f g hnc hnt hI hg h (by omega) h0) (cwV 0 hts gL_law_X4_pass rfl rfl rfl pX4_pass ⟨by decide, by decide⟩) hK hP hD hS hA hST ((Jf_r _ (Jf_r _ (Jf_r _ (Jf_r _ (Jf_all _ _ sm_fst)))))).1 0 rfl rfl rfl rfl hl.1 rfl (Nat.le_of_ble_eq_true rfl) dL_law_578 ⟨(by show _ ≤ 600130; omega), (by show _ ≤ 7301080; omega)⟩ rfl (fun H locs hP hD hS => ?_)
  obtain ⟨f1, e1⟩ : ∃ f1, f1 = hourF nc nt g f := ⟨_, rfl⟩
  have G1 : GS2 nc nt f1 g (h + 1) := by rw [e1]; exact g_hour (by omega) G
  obtain ⟨⟨-, -, hI1, hg1, h01⟩, hz1, hxc1, hxt1⟩ := id G1
  rw [← e1] at hP hD hl ⊢
  have hth1 : ∀ i, i < 5 → th (wN i) = cntF nt f1 g (wN i) := by rw [e1]; exact hth
  refine lv_icmp_ne (tgt := 601) hx hb dL_law_581 (by decide) (fun c_581 => ?_) (fun c_581 => ?_)
  · exact absurd rfl c_581
  refine lv_aload_n hx hb dL_law_584 rfl (lv_at hl 13 rfl) ?_
  refine lv_bipush (v := 6) hx hb dL_law_585 (by decide) ?_
  refine c1_V0 (xe_no (k_count (w := 6) (by decide))) (As := [.int 6]) (rest := []) (ws' := ([(mo, .inl (cI, 6, .inl mostA)), (wh, .inl (cI, 5, .inl (fun i => nI (wN i)))), (qc, .inl (cL, nc, .inr (.inr (.inr (.inr (fun i => some (r i))))))), (qt, .inl (cL, nt, .inr (.inr (.inr (.inr (fun i => some (r2 i))))))), (qh, .inl (cI, 10, .inl (cntF nt f g))), (qn, .inl (cI, 10, .inl th)), (qd, .inl (cI, nc, .inl dn))] : va_W) ++ (RT cI r2 f nt ++ (RC cI r f nc ++ ((YW cI cC cT x A (B 0) nc nt f1 g ++ CW cI cC cT B nc2 nt2 f2 g2) ++ (SM cI cL S C T nc nt f1 g))))) ⟨hx, hb, hml, hown, hts⟩ (mX3_count l D cI cC cT cL hl0 x (B 0) A nc nt f1 g 6 hnt (h + 1) (by omega) h01) (cwV 1 hts gL_law_X3_count rfl rfl rfl pX3_count ⟨by decide, by decide⟩) hK hP hD hS hA hST ((Jf_r _ (Jf_r _ (Jf_r _ (Jf_l _ (Jf_hd _ _ _ yw_fst)))))).1 ((Jf_r _ (Jf_r _ (Jf_r _ (Jf_l _ (Jf_hd _ _ _ yw_fst)))))).1 0 rfl rfl rfl rfl hl.1 rfl (Nat.le_of_ble_eq_true rfl) dL_law_587 ⟨(by show _ ≤ 600130; omega), (by show _ ≤ 7301080; omega)⟩ rfl (fun H locs hP hD hS => ?_)
  rw [show cntF nt f1 g (6 : Int32).toNatClampNeg = cntF nt f1 g 6 from rfl]
  refine lv_aload hx hb dL_law_590 (lv_at hl 4 rfl) ?_
  refine lv_bipush (v := 6) hx hb dL_law_592 (by decide) ?_
  refine w_ildM hx hb hK hP (List.mem_append_left _ (List.mem_of_getElem? (i := 4) rfl)) rfl 6 rfl (by decide) (by decide) (v := (cntF nt f g) 6) rfl dL_law_594 ?_
  refine lv_iload hx hb dL_law_595 (lv_at hl 0 rfl) ?_
  refine lv_iadd hx hb dL_law_597 ?_
  refine lv_icmp_eq (tgt := 603) hx hb dL_law_598 (by decide) (fun c_598 => ?_) (fun c_598 => ?_)
  rotate_left
  · exact absurd w_6 c_598
  refine lv_aload hx hb dL_law_603 (lv_at hl 10 rfl) ?_
  refine lv_astore (lv' := [(19, .ref wh), (18, .int (f1 5 - f 5)), (17, .ref qd), (16, .int (fd0 (iceN f g h) 1000 0)), (14, .ref qn), (11, .ref qh), (10, .ref qt), (9, .ref qc), (8, .int (nI nt)), (7, .int (nI nc)), (5, .int (nI time)), (4, .ref wh), (3, .ref mo), (2, .ref (S 0)), (1, .ref x), (0, .ref b)]) hx hb dL_law_605 hl (by decide) rfl (fun ls hl => ?_)
  refine lv_aload hx hb dL_law_607 (lv_at hl 0 rfl) ?_
  refine w_alenI hx hb hK hP (List.mem_append_left _ (List.mem_of_getElem? (i := 1) rfl)) rfl dL_law_609 ?_
  refine lv_istore (lv' := [(20, .int (nI 5)), (19, .ref wh), (18, .int (f1 5 - f 5)), (17, .ref qd), (16, .int (fd0 (iceN f g h) 1000 0)), (14, .ref qn), (11, .ref qh), (10, .ref qt), (9, .ref qc), (8, .int (nI nt)), (7, .int (nI nc)), (5, .int (nI time)), (4, .ref wh), (3, .ref mo), (2, .ref (S 0)), (1, .ref x), (0, .ref b)]) hx hb dL_law_610 hl (by decide) rfl (fun ls hl => ?_)
  refine lv_iconst (v := 0) hx hb dL_law_612 (by decide) ?_
  refine lv_istore (lv' := [(21, .int 0), (20, .int (nI 5)), (19, .ref wh), (18, .int (f1 5 - f 5)), (17, .ref qd), (16, .int (fd0 (iceN f g h) 1000 0)), (14, .ref qn), (11, .ref qh), (10, .ref qt), (9, .ref qc), (8, .int (nI nt)), (7, .int (nI nc)), (5, .int (nI time)), (4, .ref wh), (3, .ref mo), (2, .ref (S 0)), (1, .ref x), (0, .ref b)]) hx hb dL_law_613 hl (by decide) rfl (fun ls hl => ?_)
  have lp0 : ∀ (n j : Nat), j + n = 5 → ∀ (H : Heap) (locs : List Loc), va_P D vwCl (([(mo, .inl (cI, 6, .inl mostA)), (wh, .inl (cI, 5, .inl (fun i => nI (wN i)))), (qc, .inl (cL, nc, .inr (.inr (.inr (.inr (fun i => some (r i))))))), (qt, .inl (cL, nt, .inr (.inr (.inr (.inr (fun i => some (r2 i))))))), (qh, .inl (cI, 10, .inl (cntF nt f g))), (qn, .inl (cI, 10, .inl th)), (qd, .inl (cI, nc, .inl dn))] : va_W) ++ (RT cI r2 f nt ++ (RC cI r f nc ++ ((YW cI cC cT x A (B 0) nc nt f1 g ++ CW cI cC cT B nc2 nt2 f2 g2) ++ (SM cI cL S C T nc nt f1 g))))) H → va_D A0 (([(mo, .inl (cI, 6, .inl mostA)), (wh, .inl (cI, 5, .inl (fun i => nI (wN i)))), (qc, .inl (cL, nc, .inr (.inr (.inr (.inr (fun i => some (r i))))))), (qt, .inl (cL, nt, .inr (.inr (.inr (.inr (fun i => some (r2 i))))))), (qh, .inl (cI, 10, .inl (cntF nt f g))), (qn, .inl (cI, 10, .inl th)), (qd, .inl (cI, nc, .inl dn))] : va_W) ++ (RT cI r2 f nt ++ (RC cI r f nc ++ ((YW cI cC cT x A (B 0) nc nt f1 g ++ CW cI cC cT B nc2 nt2 f2 g2) ++ (SM cI cL S C T nc nt f1 g))))) → va_S A0 s.heap H locs → ∀ ls, lv_has ls 30 [(21, .int (nI j)), (20, .int (nI 5)), (19, .ref wh), (18, .int (f1 5 - f 5)), (17, .ref qd), (16, .int (fd0 (iceN f g h) 1000 0)), (14, .ref qn), (11, .ref qh), (10, .ref qt), (9, .ref qc), (8, .int (nI nt)), (7, .int (nI nc)), (5, .int (nI time)), (4, .ref wh), (3, .ref mo), (2, .ref (S 0)), (1, .ref x), (0, .ref b)] → W p l e room_1 s m args below meth c H locs (cells + 2 + j) (slots + 12 + 6 * j) Q (F0 m 615 ls []) := by
    intro n
    induction n with
    | zero =>
      intro j hj   H locs hP hD hS ls hl
      have hje : 5 = j := by omega
      subst hje
      refine lv_iload hx hb dL_law_615 (lv_at hl 0 rfl) ?_
      refine lv_iload hx hb dL_law_617 (lv_at hl 1 rfl) ?_
      refine lv_icmp_ge (tgt := 651) hx hb dL_law_619 (by decide) (fun c_619 => ?_) (fun c_619 => ?_)
      rotate_left
      · exact absurd (Int32.le_refl _) c_619
      exact law_6 EL ht hh G G1 e1 hcE hsE (by omega) (by omega) K rfl hdn hP hD hS (lv_sub hl [3, 4, 5, 7, 8, 9, 10, 11, 12, 13, 14, 15, 16, 17] rfl)
    | succ n ih =>
      intro j hj   H locs hP hD hS ls hl
      have hw9 : wN j < 10 := wN_lt j
      refine lv_iload hx hb dL_law_615 (lv_at hl 0 rfl) ?_
      refine lv_iload hx hb dL_law_617 (lv_at hl 1 rfl) ?_
      refine lv_icmp_ge (tgt := 651) hx hb dL_law_619 (by decide) (fun c_619 => ?_) (fun c_619 => ?_)
      · exact absurd c_619 (nI_ge (by omega) (by omega))
      refine lv_aload hx hb dL_law_622 (lv_at hl 2 rfl) ?_
      refine lv_iload hx hb dL_law_624 (lv_at hl 0 rfl) ?_
      refine w_ildM hx hb hK hP (List.mem_append_left _ (List.mem_of_getElem? (i := 1) rfl)) rfl j rfl (by omega) (by decide) (v := nI (wN j)) rfl dL_law_626 ?_
      refine lv_istore (lv' := [(22, .int (nI (wN j))), (21, .int (nI j)), (20, .int (nI 5)), (19, .ref wh), (18, .int (f1 5 - f 5)), (17, .ref qd), (16, .int (fd0 (iceN f g h) 1000 0)), (14, .ref qn), (11, .ref qh), (10, .ref qt), (9, .ref qc), (8, .int (nI nt)), (7, .int (nI nc)), (5, .int (nI time)), (4, .ref wh), (3, .ref mo), (2, .ref (S 0)), (1, .ref x), (0, .ref b)]) hx hb dL_law_627 hl (by decide) rfl (fun ls hl => ?_)
      refine lv_aload_n hx hb dL_law_629 rfl (lv_at hl 17 rfl) ?_
      refine lv_iload hx hb dL_law_630 (lv_at hl 0 rfl) ?_
      refine c1_V0 (xe_no (k_count (w := (wN j)) (by omega))) (As := [.int (nI (wN j))]) (rest := []) (ws' := ([(mo, .inl (cI, 6, .inl mostA)), (wh, .inl (cI, 5, .inl (fun i => nI (wN i)))), (qc, .inl (cL, nc, .inr (.inr (.inr (.inr (fun i => some (r i))))))), (qt, .inl (cL, nt, .inr (.inr (.inr (.inr (fun i => some (r2 i))))))), (qh, .inl (cI, 10, .inl (cntF nt f g))), (qn, .inl (cI, 10, .inl th)), (qd, .inl (cI, nc, .inl dn))] : va_W) ++ (RT cI r2 f nt ++ (RC cI r f nc ++ ((YW cI cC cT x A (B 0) nc nt f1 g ++ CW cI cC cT B nc2 nt2 f2 g2) ++ (SM cI cL S C T nc nt f1 g))))) ⟨hx, hb, hml, hown, hts⟩ (mX3_count l D cI cC cT cL hl0 x (B 0) A nc nt f1 g (nI (wN j)) hnt (h + 1) (by omega) h01) (cwV 1 hts gL_law_X3_count rfl rfl rfl pX3_count ⟨by decide, by decide⟩) hK hP hD hS hA hST ((Jf_r _ (Jf_r _ (Jf_r _ (Jf_l _ (Jf_hd _ _ _ yw_fst)))))).1 ((Jf_r _ (Jf_r _ (Jf_r _ (Jf_l _ (Jf_hd _ _ _ yw_fst)))))).1 0 rfl rfl rfl rfl hl.1 rfl (Nat.le_of_ble_eq_true rfl) dL_law_632 ⟨(by show _ ≤ 600130; omega), (by show _ ≤ 7301080; omega)⟩ rfl (fun H locs hP hD hS => ?_)
      rw [nI_clamp (n := (wN j)) (by omega)]
      refine lv_aload hx hb dL_law_635 (lv_at hl 7 rfl) ?_
      refine lv_iload hx hb dL_law_637 (lv_at hl 0 rfl) ?_
      refine w_ildM hx hb hK hP (List.mem_append_left _ (List.mem_of_getElem? (i := 5) rfl)) rfl (wN j) rfl (by omega) (by decide) (v := th (wN j)) rfl dL_law_639 ?_
      refine lv_icmp_eq (tgt := 645) hx hb dL_law_640 (by decide) (fun c_640 => ?_) (fun c_640 => ?_)
      rotate_left
      · exact absurd (hth1 j (by omega)).symm c_640
      refine lv_iinc (v := nI (j + 1)) (lv' := [(21, .int (nI (j + 1))), (22, .int (nI (wN j))), (20, .int (nI 5)), (19, .ref wh), (18, .int (f1 5 - f 5)), (17, .ref qd), (16, .int (fd0 (iceN f g h) 1000 0)), (14, .ref qn), (11, .ref qh), (10, .ref qt), (9, .ref qc), (8, .int (nI nt)), (7, .int (nI nc)), (5, .int (nI time)), (4, .ref wh), (3, .ref mo), (2, .ref (S 0)), (1, .ref x), (0, .ref b)]) hx hb dL_law_645 hl (k := 1) rfl (nI_succ _).symm (by decide) rfl (fun ls hl => ?_)
      refine lv_goto (tgt := 615) hx hb dL_law_648 (by decide) ?_
      exact W.widen (by omega) (by omega) (ih (j + 1) (by omega) _ _ hP hD hS _ (lv_sub hl [0, 2, 3, 4, 5, 6, 7, 8, 9, 10, 11, 12, 13, 14, 15, 16, 17, 18] rfl))
  exact W.widen (by omega) (by omega) (lp0 5 0 (by omega) _ _ hP hD hS _ (lv_sub hl [0, 1, 2, 3, 4, 5, 6, 7, 8, 9, 10, 11, 12, 13, 14, 15, 16, 17] rfl))
