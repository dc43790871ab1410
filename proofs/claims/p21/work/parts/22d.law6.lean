set_option maxHeartbeats 4000000 in
set_option maxRecDepth 100000 in
theorem law_6 {p : Program} {l : Launch} {e : Env} {s : State} {m : MethodId} {args : Array Value} {below : List Frame} {meth : Method} {c : Code} {Q : State → Prop} {A0 : Nat → Prop} {b L : Nat} {xs : Nat → Int32} {D : va_G} {cI cC cT cL : ClassId} {x mo wh : Nat} {A B : Nat → Nat} {time cE sE cells slots : Nat} {S C T : Nat → Nat} {nc nt h : Nat} {f g : Nat → Int32} {nc2 nt2 : Nat} {f2 g2 : Nat → Int32} {H : Heap} {locs : List Loc} {ls : Array Slot} {f1 : Nat → Int32} {qc qt qh qn qd : Nat} {r r2 : Nat → Nat} {th dn : Nat → Int32} {cn : Int32} (EL : LE p l s m args c A0 b L xs D cI cC cT cL) (ht : time < 60) (hh : h ≤ 60 + time) (G : GS2 nc nt f g h) (G1 : GS2 nc nt f1 g (h + 1)) (e1 : f1 = hourF nc nt g f) (hcE : cE ≤ 600130) (hsE : sE ≤ 7301080) (hcl : cells + 89 ≤ cE) (hsl : slots + 534 ≤ sE) (K : LK p l e s m args below meth c Q A0 b D cI cC cT cL x mo wh A B (time + 1) cE sE) (hcn : f1 5 - f 5 = cn) (hdn : ∀ i, i < nc → dn i = doneC f g h i) (hP : va_P D vwCl (([(mo, .inl (cI, 6, .inl mostA)), (wh, .inl (cI, 5, .inl (fun i => nI (wN i)))), (qc, .inl (cL, nc, .inr (.inr (.inr (.inr (fun i => some (r i))))))), (qt, .inl (cL, nt, .inr (.inr (.inr (.inr (fun i => some (r2 i))))))), (qh, .inl (cI, 10, .inl (cntF nt f g))), (qn, .inl (cI, 10, .inl th)), (qd, .inl (cI, nc, .inl dn))] : va_W) ++ (RT cI r2 f nt ++ (RC cI r f nc ++ ((YW cI cC cT x A (B 0) nc nt f1 g ++ CW cI cC cT B nc2 nt2 f2 g2) ++ (SM cI cL S C T nc nt f1 g))))) H) (hD : va_D A0 (([(mo, .inl (cI, 6, .inl mostA)), (wh, .inl (cI, 5, .inl (fun i => nI (wN i)))), (qc, .inl (cL, nc, .inr (.inr (.inr (.inr (fun i => some (r i))))))), (qt, .inl (cL, nt, .inr (.inr (.inr (.inr (fun i => some (r2 i))))))), (qh, .inl (cI, 10, .inl (cntF nt f g))), (qn, .inl (cI, 10, .inl th)), (qd, .inl (cI, nc, .inl dn))] : va_W) ++ (RT cI r2 f nt ++ (RC cI r f nc ++ ((YW cI cC cT x A (B 0) nc nt f1 g ++ CW cI cC cT B nc2 nt2 f2 g2) ++ (SM cI cL S C T nc nt f1 g)))))) (hS : va_S A0 s.heap H locs) (hl : lv_has ls 30 [(18, .int cn), (17, .ref qd), (16, .int (fd0 (iceN f g h) 1000 0)), (11, .ref qh), (10, .ref qt), (9, .ref qc), (8, .int (nI nt)), (7, .int (nI nc)), (5, .int (nI time)), (4, .ref wh), (3, .ref mo), (2, .ref (S 0)), (1, .ref x), (0, .ref b)]) : W p l e room_1 s m args below meth c H locs cells slots Q (F0 m 651 ls []) := by
  obtain ⟨hx, hb, hml, hown, hts, hK, hST, hX, hbl, hbA, hA, hl0, hN⟩ := id EL
  have hAA : va_AOA .int s := hST.2.2.2.2.2.2.2.2.2.1
  obtain ⟨⟨hnc, hnt, hI, hg, h0⟩, hz, hxc, hxt⟩ := id G
  obtain ⟨⟨-, -, hI1, hg1, h01⟩, hz1, hxc1, hxt1⟩ := id G1
  have h9 := hour_sells G (by omega)
  rw [← e1] at h9
  obtain ⟨sq, aq, pq, z1, z2, z3, z4, z5, z6, z7, z8, z9, z10⟩ := h9
  rw [z4] at hcn
  subst hcn
  refine lv_aload_n hx hb dL_law_651 rfl (lv_at hl 12 rfl) ?_
  refine lv_bipush (v := 8) hx hb dL_law_652 (by decide) ?_
  refine c1_V0 (xe_no (k_count (w := 8) (by decide))) (As := [.int 8]) (rest := []) (ws' := ([(mo, .inl (cI, 6, .inl mostA)), (wh, .inl (cI, 5, .inl (fun i => nI (wN i)))), (qc, .inl (cL, nc, .inr (.inr (.inr (.inr (fun i => some (r i))))))), (qt, .inl (cL, nt, .inr (.inr (.inr (.inr (fun i => some (r2 i))))))), (qh, .inl (cI, 10, .inl (cntF nt f g))), (qn, .inl (cI, 10, .inl th)), (qd, .inl (cI, nc, .inl dn))] : va_W) ++ (RT cI r2 f nt ++ (RC cI r f nc ++ ((YW cI cC cT x A (B 0) nc nt f1 g ++ CW cI cC cT B nc2 nt2 f2 g2) ++ (SM cI cL S C T nc nt f1 g))))) ⟨hx, hb, hml, hown, hts⟩ (mX3_count l D cI cC cT cL hl0 x (B 0) A nc nt f1 g 8 hnt (h + 1) (by omega) h01) (cwV 1 hts gL_law_X3_count rfl rfl rfl pX3_count ⟨by decide, by decide⟩) hK hP hD hS hA hST ((Jf_r _ (Jf_r _ (Jf_r _ (Jf_l _ (Jf_hd _ _ _ yw_fst)))))).1 ((Jf_r _ (Jf_r _ (Jf_r _ (Jf_l _ (Jf_hd _ _ _ yw_fst)))))).1 0 rfl rfl rfl rfl hl.1 rfl (Nat.le_of_ble_eq_true rfl) dL_law_654 ⟨(by show _ ≤ 600130; omega), (by show _ ≤ 7301080; omega)⟩ rfl (fun H locs hP hD hS => ?_)
  rw [show cntF nt f1 g (8 : Int32).toNatClampNeg = cntF nt f1 g 8 from rfl]
  refine lv_aload hx hb dL_law_657 (lv_at hl 3 rfl) ?_
  refine lv_bipush (v := 8) hx hb dL_law_659 (by decide) ?_
  refine w_ildM hx hb hK hP (List.mem_append_left _ (List.mem_of_getElem? (i := 4) rfl)) rfl 8 rfl (by decide) (by decide) (v := (cntF nt f g) 8) rfl dL_law_661 ?_
  refine lv_isub hx hb dL_law_662 ?_
  rw [z2]
  refine lv_istore (lv' := [(19, .int (nI sq)), (18, .int (nI pq)), (17, .ref qd), (16, .int (fd0 (iceN f g h) 1000 0)), (11, .ref qh), (10, .ref qt), (9, .ref qc), (8, .int (nI nt)), (7, .int (nI nc)), (5, .int (nI time)), (4, .ref wh), (3, .ref mo), (2, .ref (S 0)), (1, .ref x), (0, .ref b)]) hx hb dL_law_663 hl (by decide) rfl (fun ls hl => ?_)
  refine lv_aload_n hx hb dL_law_665 rfl (lv_at hl 13 rfl) ?_
  refine lv_bipush (v := 9) hx hb dL_law_666 (by decide) ?_
  refine c1_V0 (xe_no (k_count (w := 9) (by decide))) (As := [.int 9]) (rest := []) (ws' := ([(mo, .inl (cI, 6, .inl mostA)), (wh, .inl (cI, 5, .inl (fun i => nI (wN i)))), (qc, .inl (cL, nc, .inr (.inr (.inr (.inr (fun i => some (r i))))))), (qt, .inl (cL, nt, .inr (.inr (.inr (.inr (fun i => some (r2 i))))))), (qh, .inl (cI, 10, .inl (cntF nt f g))), (qn, .inl (cI, 10, .inl th)), (qd, .inl (cI, nc, .inl dn))] : va_W) ++ (RT cI r2 f nt ++ (RC cI r f nc ++ ((YW cI cC cT x A (B 0) nc nt f1 g ++ CW cI cC cT B nc2 nt2 f2 g2) ++ (SM cI cL S C T nc nt f1 g))))) ⟨hx, hb, hml, hown, hts⟩ (mX3_count l D cI cC cT cL hl0 x (B 0) A nc nt f1 g 9 hnt (h + 1) (by omega) h01) (cwV 1 hts gL_law_X3_count rfl rfl rfl pX3_count ⟨by decide, by decide⟩) hK hP hD hS hA hST ((Jf_r _ (Jf_r _ (Jf_r _ (Jf_l _ (Jf_hd _ _ _ yw_fst)))))).1 ((Jf_r _ (Jf_r _ (Jf_r _ (Jf_l _ (Jf_hd _ _ _ yw_fst)))))).1 0 rfl rfl rfl rfl hl.1 rfl (Nat.le_of_ble_eq_true rfl) dL_law_668 ⟨(by show _ ≤ 600130; omega), (by show _ ≤ 7301080; omega)⟩ rfl (fun H locs hP hD hS => ?_)
  rw [show cntF nt f1 g (9 : Int32).toNatClampNeg = cntF nt f1 g 9 from rfl]
  refine lv_aload hx hb dL_law_671 (lv_at hl 4 rfl) ?_
  refine lv_bipush (v := 9) hx hb dL_law_673 (by decide) ?_
  refine w_ildM hx hb hK hP (List.mem_append_left _ (List.mem_of_getElem? (i := 4) rfl)) rfl 9 rfl (by decide) (by decide) (v := (cntF nt f g) 9) rfl dL_law_675 ?_
  refine lv_isub hx hb dL_law_676 ?_
  rw [z3]
  refine lv_istore (lv' := [(20, .int (nI aq)), (19, .int (nI sq)), (18, .int (nI pq)), (17, .ref qd), (16, .int (fd0 (iceN f g h) 1000 0)), (11, .ref qh), (10, .ref qt), (9, .ref qc), (8, .int (nI nt)), (7, .int (nI nc)), (5, .int (nI time)), (4, .ref wh), (3, .ref mo), (2, .ref (S 0)), (1, .ref x), (0, .ref b)]) hx hb dL_law_677 hl (by decide) rfl (fun ls hl => ?_)
  refine lv_aload hx hb dL_law_679 (lv_at hl 5 rfl) ?_
  refine lv_iconst (v := 0) hx hb dL_law_681 (by decide) ?_
  refine w_ildM hx hb hK hP (List.mem_append_left _ (List.mem_of_getElem? (i := 4) rfl)) rfl 0 rfl (by decide) (by decide) (v := (cntF nt f g) 0) rfl dL_law_682 ?_
  refine lv_bipush (v := 24) hx hb dL_law_683 (by decide) ?_
  refine lv_irem hx hb dL_law_685 (by decide) ?_
  refine lv_istore (lv' := [(21, .int (((cntF nt f g) 0) - ((cntF nt f g) 0) / 24 * 24)), (20, .int (nI aq)), (19, .int (nI sq)), (18, .int (nI pq)), (17, .ref qd), (16, .int (fd0 (iceN f g h) 1000 0)), (11, .ref qh), (10, .ref qt), (9, .ref qc), (8, .int (nI nt)), (7, .int (nI nc)), (5, .int (nI time)), (4, .ref wh), (3, .ref mo), (2, .ref (S 0)), (1, .ref x), (0, .ref b)]) hx hb dL_law_686 hl (by decide) rfl (fun ls hl => ?_)
  have jn712 : ∀ (cm : Int32), (nI sq + nI aq = cm) → ∀ (H : Heap) (locs : List Loc), va_P D vwCl (([(mo, .inl (cI, 6, .inl mostA)), (wh, .inl (cI, 5, .inl (fun i => nI (wN i)))), (qc, .inl (cL, nc, .inr (.inr (.inr (.inr (fun i => some (r i))))))), (qt, .inl (cL, nt, .inr (.inr (.inr (.inr (fun i => some (r2 i))))))), (qh, .inl (cI, 10, .inl (cntF nt f g))), (qn, .inl (cI, 10, .inl th)), (qd, .inl (cI, nc, .inl dn))] : va_W) ++ (RT cI r2 f nt ++ (RC cI r f nc ++ ((YW cI cC cT x A (B 0) nc nt f1 g ++ CW cI cC cT B nc2 nt2 f2 g2) ++ (SM cI cL S C T nc nt f1 g))))) H → va_D A0 (([(mo, .inl (cI, 6, .inl mostA)), (wh, .inl (cI, 5, .inl (fun i => nI (wN i)))), (qc, .inl (cL, nc, .inr (.inr (.inr (.inr (fun i => some (r i))))))), (qt, .inl (cL, nt, .inr (.inr (.inr (.inr (fun i => some (r2 i))))))), (qh, .inl (cI, 10, .inl (cntF nt f g))), (qn, .inl (cI, 10, .inl th)), (qd, .inl (cI, nc, .inl dn))] : va_W) ++ (RT cI r2 f nt ++ (RC cI r f nc ++ ((YW cI cC cT x A (B 0) nc nt f1 g ++ CW cI cC cT B nc2 nt2 f2 g2) ++ (SM cI cL S C T nc nt f1 g))))) → va_S A0 s.heap H locs → ∀ ls, lv_has ls 30 [(21, .int (((cntF nt f g) 0) - ((cntF nt f g) 0) / 24 * 24)), (20, .int (nI aq)), (19, .int (nI sq)), (18, .int (nI pq)), (17, .ref qd), (16, .int (fd0 (iceN f g h) 1000 0)), (11, .ref qh), (10, .ref qt), (9, .ref qc), (8, .int (nI nt)), (7, .int (nI nc)), (5, .int (nI time)), (4, .ref wh), (3, .ref mo), (2, .ref (S 0)), (1, .ref x), (0, .ref b)] → W p l e room_1 s m args below meth c H locs (cells + 2) (slots + 12) Q (F0 m 712 ls [.int cm]) := by
    intro cm hcm H locs hP hD hS ls hl
    refine lv_istore (lv' := [(22, .int cm), (21, .int (((cntF nt f g) 0) - ((cntF nt f g) 0) / 24 * 24)), (20, .int (nI aq)), (19, .int (nI sq)), (18, .int (nI pq)), (17, .ref qd), (16, .int (fd0 (iceN f g h) 1000 0)), (11, .ref qh), (10, .ref qt), (9, .ref qc), (8, .int (nI nt)), (7, .int (nI nc)), (5, .int (nI time)), (4, .ref wh), (3, .ref mo), (2, .ref (S 0)), (1, .ref x), (0, .ref b)]) hx hb dL_law_712 hl (by decide) rfl (fun ls hl => ?_)
    refine lv_iload hx hb dL_law_714 (lv_at hl 3 rfl) ?_
    refine lv_iload hx hb dL_law_716 (lv_at hl 2 rfl) ?_
    refine lv_iadd hx hb dL_law_718 ?_
    refine lv_iload hx hb dL_law_719 (lv_at hl 0 rfl) ?_
    refine lv_icmp_ne (tgt := 842) hx hb dL_law_721 (by decide) (fun c_721 => ?_) (fun c_721 => ?_)
    · exact absurd hcm c_721
    refine lv_iload hx hb dL_law_724 (lv_at hl 4 rfl) ?_
    refine lv_iconst (v := 2) hx hb dL_law_726 (by decide) ?_
    refine lv_iload hx hb dL_law_727 (lv_at hl 3 rfl) ?_
    refine lv_imul hx hb dL_law_729 ?_
    refine lv_icmp_lt (tgt := 842) hx hb dL_law_730 (by decide) (fun c_730 => ?_) (fun c_730 => ?_)
    · exact absurd c_730 (l6a z5 (by omega))
    refine lv_iload hx hb dL_law_733 (lv_at hl 4 rfl) ?_
    refine lv_iconst (v := 3) hx hb dL_law_735 (by decide) ?_
    refine lv_iload hx hb dL_law_736 (lv_at hl 3 rfl) ?_
    refine lv_imul hx hb dL_law_738 ?_
    refine lv_icmp_gt (tgt := 842) hx hb dL_law_739 (by decide) (fun c_739 => ?_) (fun c_739 => ?_)
    · exact absurd c_739 (l6b z6 (by omega))
    refine lv_aload hx hb dL_law_742 (lv_at hl 7 rfl) ?_
    refine lv_iconst (v := 5) hx hb dL_law_744 (by decide) ?_
    refine w_ildM hx hb hK hP (List.mem_append_left _ (List.mem_of_getElem? (i := 4) rfl)) rfl 5 rfl (by decide) (by decide) (v := (cntF nt f g) 5) rfl dL_law_745 ?_
    refine lv_aload_n hx hb dL_law_746 rfl (lv_at hl 16 rfl) ?_
    refine lv_iconst (v := 5) hx hb dL_law_747 (by decide) ?_
    refine c1_V0 (xe_no (k_count (w := 5) (by decide))) (As := [.int 5]) (rest := [.int ((cntF nt f g) 5)]) (ws' := ([(mo, .inl (cI, 6, .inl mostA)), (wh, .inl (cI, 5, .inl (fun i => nI (wN i)))), (qc, .inl (cL, nc, .inr (.inr (.inr (.inr (fun i => some (r i))))))), (qt, .inl (cL, nt, .inr (.inr (.inr (.inr (fun i => some (r2 i))))))), (qh, .inl (cI, 10, .inl (cntF nt f g))), (qn, .inl (cI, 10, .inl th)), (qd, .inl (cI, nc, .inl dn))] : va_W) ++ (RT cI r2 f nt ++ (RC cI r f nc ++ ((YW cI cC cT x A (B 0) nc nt f1 g ++ CW cI cC cT B nc2 nt2 f2 g2) ++ (SM cI cL S C T nc nt f1 g))))) ⟨hx, hb, hml, hown, hts⟩ (mX3_count l D cI cC cT cL hl0 x (B 0) A nc nt f1 g 5 hnt (h + 1) (by omega) h01) (cwV 1 hts gL_law_X3_count rfl rfl rfl pX3_count ⟨by decide, by decide⟩) hK hP hD hS hA hST ((Jf_r _ (Jf_r _ (Jf_r _ (Jf_l _ (Jf_hd _ _ _ yw_fst)))))).1 ((Jf_r _ (Jf_r _ (Jf_r _ (Jf_l _ (Jf_hd _ _ _ yw_fst)))))).1 0 rfl rfl rfl rfl hl.1 rfl (Nat.le_of_ble_eq_true rfl) dL_law_748 ⟨(by show _ ≤ 600130; omega), (by show _ ≤ 7301080; omega)⟩ rfl (fun H locs hP hD hS => ?_)
    rw [show cntF nt f1 g (5 : Int32).toNatClampNeg = cntF nt f1 g 5 from rfl]
    refine lv_isub hx hb dL_law_751 ?_
    refine lv_iload hx hb dL_law_752 (lv_at hl 3 rfl) ?_
    refine lv_icmp_ne (tgt := 842) hx hb dL_law_754 (by decide) (fun c_754 => ?_) (fun c_754 => ?_)
    · exact absurd z7 c_754
    have jn779 : ∀ (H : Heap) (locs : List Loc), va_P D vwCl (([(mo, .inl (cI, 6, .inl mostA)), (wh, .inl (cI, 5, .inl (fun i => nI (wN i)))), (qc, .inl (cL, nc, .inr (.inr (.inr (.inr (fun i => some (r i))))))), (qt, .inl (cL, nt, .inr (.inr (.inr (.inr (fun i => some (r2 i))))))), (qh, .inl (cI, 10, .inl (cntF nt f g))), (qn, .inl (cI, 10, .inl th)), (qd, .inl (cI, nc, .inl dn))] : va_W) ++ (RT cI r2 f nt ++ (RC cI r f nc ++ ((YW cI cC cT x A (B 0) nc nt f1 g ++ CW cI cC cT B nc2 nt2 f2 g2) ++ (SM cI cL S C T nc nt f1 g))))) H → va_D A0 (([(mo, .inl (cI, 6, .inl mostA)), (wh, .inl (cI, 5, .inl (fun i => nI (wN i)))), (qc, .inl (cL, nc, .inr (.inr (.inr (.inr (fun i => some (r i))))))), (qt, .inl (cL, nt, .inr (.inr (.inr (.inr (fun i => some (r2 i))))))), (qh, .inl (cI, 10, .inl (cntF nt f g))), (qn, .inl (cI, 10, .inl th)), (qd, .inl (cI, nc, .inl dn))] : va_W) ++ (RT cI r2 f nt ++ (RC cI r f nc ++ ((YW cI cC cT x A (B 0) nc nt f1 g ++ CW cI cC cT B nc2 nt2 f2 g2) ++ (SM cI cL S C T nc nt f1 g))))) → va_S A0 s.heap H locs → ∀ ls, lv_has ls 30 [(22, .int cm), (21, .int (((cntF nt f g) 0) - ((cntF nt f g) 0) / 24 * 24)), (20, .int (nI aq)), (19, .int (nI sq)), (18, .int (nI pq)), (17, .ref qd), (16, .int (fd0 (iceN f g h) 1000 0)), (11, .ref qh), (10, .ref qt), (9, .ref qc), (8, .int (nI nt)), (7, .int (nI nc)), (5, .int (nI time)), (4, .ref wh), (3, .ref mo), (2, .ref (S 0)), (1, .ref x), (0, .ref b)] → W p l e room_1 s m args below meth c H locs (cells + 5) (slots + 30) Q (F0 m 779 ls []) := by
      intro   H locs hP hD hS ls hl
      refine lv_aload_n hx hb dL_law_779 rfl (lv_at hl 16 rfl) ?_
      refine lv_iconst (v := 3) hx hb dL_law_780 (by decide) ?_
      refine c1_V0 (xe_no (k_count (w := 3) (by decide))) (As := [.int 3]) (rest := []) (ws' := ([(mo, .inl (cI, 6, .inl mostA)), (wh, .inl (cI, 5, .inl (fun i => nI (wN i)))), (qc, .inl (cL, nc, .inr (.inr (.inr (.inr (fun i => some (r i))))))), (qt, .inl (cL, nt, .inr (.inr (.inr (.inr (fun i => some (r2 i))))))), (qh, .inl (cI, 10, .inl (cntF nt f g))), (qn, .inl (cI, 10, .inl th)), (qd, .inl (cI, nc, .inl dn))] : va_W) ++ (RT cI r2 f nt ++ (RC cI r f nc ++ ((YW cI cC cT x A (B 0) nc nt f1 g ++ CW cI cC cT B nc2 nt2 f2 g2) ++ (SM cI cL S C T nc nt f1 g))))) ⟨hx, hb, hml, hown, hts⟩ (mX3_count l D cI cC cT cL hl0 x (B 0) A nc nt f1 g 3 hnt (h + 1) (by omega) h01) (cwV 1 hts gL_law_X3_count rfl rfl rfl pX3_count ⟨by decide, by decide⟩) hK hP hD hS hA hST ((Jf_r _ (Jf_r _ (Jf_r _ (Jf_l _ (Jf_hd _ _ _ yw_fst)))))).1 ((Jf_r _ (Jf_r _ (Jf_r _ (Jf_l _ (Jf_hd _ _ _ yw_fst)))))).1 0 rfl rfl rfl rfl hl.1 rfl (Nat.le_of_ble_eq_true rfl) dL_law_781 ⟨(by show _ ≤ 600130; omega), (by show _ ≤ 7301080; omega)⟩ rfl (fun H locs hP hD hS => ?_)
      rw [show cntF nt f1 g (3 : Int32).toNatClampNeg = cntF nt f1 g 3 from rfl]
      refine lv_aload hx hb dL_law_784 (lv_at hl 7 rfl) ?_
      refine lv_iconst (v := 3) hx hb dL_law_786 (by decide) ?_
      refine w_ildM hx hb hK hP (List.mem_append_left _ (List.mem_of_getElem? (i := 4) rfl)) rfl 3 rfl (by decide) (by decide) (v := (cntF nt f g) 3) rfl dL_law_787 ?_
      refine lv_icmp_ne (tgt := 842) hx hb dL_law_788 (by decide) (fun c_788 => ?_) (fun c_788 => ?_)
      · exact absurd (w_3 e1) c_788
      refine lv_aload_n hx hb dL_law_791 rfl (lv_at hl 16 rfl) ?_
      refine lv_iconst (v := 4) hx hb dL_law_792 (by decide) ?_
      refine c1_V0 (xe_no (k_count (w := 4) (by decide))) (As := [.int 4]) (rest := []) (ws' := ([(mo, .inl (cI, 6, .inl mostA)), (wh, .inl (cI, 5, .inl (fun i => nI (wN i)))), (qc, .inl (cL, nc, .inr (.inr (.inr (.inr (fun i => some (r i))))))), (qt, .inl (cL, nt, .inr (.inr (.inr (.inr (fun i => some (r2 i))))))), (qh, .inl (cI, 10, .inl (cntF nt f g))), (qn, .inl (cI, 10, .inl th)), (qd, .inl (cI, nc, .inl dn))] : va_W) ++ (RT cI r2 f nt ++ (RC cI r f nc ++ ((YW cI cC cT x A (B 0) nc nt f1 g ++ CW cI cC cT B nc2 nt2 f2 g2) ++ (SM cI cL S C T nc nt f1 g))))) ⟨hx, hb, hml, hown, hts⟩ (mX3_count l D cI cC cT cL hl0 x (B 0) A nc nt f1 g 4 hnt (h + 1) (by omega) h01) (cwV 1 hts gL_law_X3_count rfl rfl rfl pX3_count ⟨by decide, by decide⟩) hK hP hD hS hA hST ((Jf_r _ (Jf_r _ (Jf_r _ (Jf_l _ (Jf_hd _ _ _ yw_fst)))))).1 ((Jf_r _ (Jf_r _ (Jf_r _ (Jf_l _ (Jf_hd _ _ _ yw_fst)))))).1 0 rfl rfl rfl rfl hl.1 rfl (Nat.le_of_ble_eq_true rfl) dL_law_793 ⟨(by show _ ≤ 600130; omega), (by show _ ≤ 7301080; omega)⟩ rfl (fun H locs hP hD hS => ?_)
      rw [show cntF nt f1 g (4 : Int32).toNatClampNeg = cntF nt f1 g 4 from rfl]
      refine lv_aload hx hb dL_law_796 (lv_at hl 7 rfl) ?_
      refine lv_iconst (v := 4) hx hb dL_law_798 (by decide) ?_
      refine w_ildM hx hb hK hP (List.mem_append_left _ (List.mem_of_getElem? (i := 4) rfl)) rfl 4 rfl (by decide) (by decide) (v := (cntF nt f g) 4) rfl dL_law_799 ?_
      refine lv_icmp_ne (tgt := 842) hx hb dL_law_800 (by decide) (fun c_800 => ?_) (fun c_800 => ?_)
      · exact absurd (w_4 e1) c_800
      refine lv_aload_n hx hb dL_law_803 rfl (lv_at hl 16 rfl) ?_
      refine lv_iconst (v := 2) hx hb dL_law_804 (by decide) ?_
      refine c1_V0 (xe_no (k_count (w := 2) (by decide))) (As := [.int 2]) (rest := []) (ws' := ([(mo, .inl (cI, 6, .inl mostA)), (wh, .inl (cI, 5, .inl (fun i => nI (wN i)))), (qc, .inl (cL, nc, .inr (.inr (.inr (.inr (fun i => some (r i))))))), (qt, .inl (cL, nt, .inr (.inr (.inr (.inr (fun i => some (r2 i))))))), (qh, .inl (cI, 10, .inl (cntF nt f g))), (qn, .inl (cI, 10, .inl th)), (qd, .inl (cI, nc, .inl dn))] : va_W) ++ (RT cI r2 f nt ++ (RC cI r f nc ++ ((YW cI cC cT x A (B 0) nc nt f1 g ++ CW cI cC cT B nc2 nt2 f2 g2) ++ (SM cI cL S C T nc nt f1 g))))) ⟨hx, hb, hml, hown, hts⟩ (mX3_count l D cI cC cT cL hl0 x (B 0) A nc nt f1 g 2 hnt (h + 1) (by omega) h01) (cwV 1 hts gL_law_X3_count rfl rfl rfl pX3_count ⟨by decide, by decide⟩) hK hP hD hS hA hST ((Jf_r _ (Jf_r _ (Jf_r _ (Jf_l _ (Jf_hd _ _ _ yw_fst)))))).1 ((Jf_r _ (Jf_r _ (Jf_r _ (Jf_l _ (Jf_hd _ _ _ yw_fst)))))).1 0 rfl rfl rfl rfl hl.1 rfl (Nat.le_of_ble_eq_true rfl) dL_law_805 ⟨(by show _ ≤ 600130; omega), (by show _ ≤ 7301080; omega)⟩ rfl (fun H locs hP hD hS => ?_)
      rw [show cntF nt f1 g (2 : Int32).toNatClampNeg = cntF nt f1 g 2 from rfl]
      refine lv_aload hx hb dL_law_808 (lv_at hl 7 rfl) ?_
      refine lv_iconst (v := 0) hx hb dL_law_810 (by decide) ?_
      refine w_ildM hx hb hK hP (List.mem_append_left _ (List.mem_of_getElem? (i := 4) rfl)) rfl 0 rfl (by decide) (by decide) (v := (cntF nt f g) 0) rfl dL_law_811 ?_
      refine lv_iconst (v := 4) hx hb dL_law_812 (by decide) ?_
      refine lv_irem hx hb dL_law_813 (by decide) ?_
      refine lv_if_ne (tgt := 835) hx hb dL_law_814 (by decide) (fun c_814 => ?_) (fun c_814 => ?_)
      ·
        refine lv_aload hx hb dL_law_835 (lv_at hl 7 rfl) ?_
        refine lv_iconst (v := 2) hx hb dL_law_837 (by decide) ?_
        refine w_ildM hx hb hK hP (List.mem_append_left _ (List.mem_of_getElem? (i := 4) rfl)) rfl 2 rfl (by decide) (by decide) (v := (cntF nt f g) 2) rfl dL_law_838 ?_
        refine lv_icmp_eq (tgt := 844) hx hb dL_law_839 (by decide) (fun c_839 => ?_) (fun c_839 => ?_)
        rotate_left
        · exact absurd (w_2n e1 c_814) c_839
        refine lv_iload hx hb dL_law_844 (lv_at hl 6 rfl) ?_
        refine lv_if_le (tgt := 875) hx hb dL_law_846 (by decide) (fun c_846 => ?_) (fun c_846 => ?_)
        ·
          exact law_7 EL ht hh G G1 e1 hcE hsE (by omega) (by omega) K z2 hdn hP hD hS (lv_sub hl [3, 5, 7, 8, 9, 10, 11, 12, 13, 14, 15, 16, 17] rfl)
        ·
          refine lv_aload_n hx hb dL_law_849 rfl (lv_at hl 16 rfl) ?_
          refine c0_V (As := []) (rest := []) (ws' := ([(mo, .inl (cI, 6, .inl mostA)), (wh, .inl (cI, 5, .inl (fun i => nI (wN i)))), (qc, .inl (cL, nc, .inr (.inr (.inr (.inr (fun i => some (r i))))))), (qt, .inl (cL, nt, .inr (.inr (.inr (.inr (fun i => some (r2 i))))))), (qh, .inl (cI, 10, .inl (cntF nt f g))), (qn, .inl (cI, 10, .inl th)), (qd, .inl (cI, nc, .inl dn))] : va_W) ++ (RT cI r2 f nt ++ (RC cI r f nc ++ ((YW cI cC cT x A (B 0) nc nt f1 g ++ CW cI cC cT B nc2 nt2 f2 g2) ++ (SM cI cL S C T nc nt f1 g))))) ⟨hx, hb, hml, hown, hts⟩ (mX3_lasts l D cI cC cT cL x (B 0) A nc nt f1 g (h + 1) (by omega) h01) (cwV 0 hts gL_law_X3_lasts rfl rfl rfl pX3_lasts ⟨by decide, by decide⟩) hK hP hD hS hA hST ((Jf_r _ (Jf_r _ (Jf_r _ (Jf_l _ (Jf_hd _ _ _ yw_fst)))))).1 0 rfl rfl rfl rfl hl.1 rfl (Nat.le_of_ble_eq_true rfl) dL_law_850 ⟨(by show _ ≤ 600130; omega), (by show _ ≤ 7301080; omega)⟩ rfl (fun H locs hP hD hS => ?_)
          refine lv_iload hx hb dL_law_853 (lv_at hl 6 rfl) ?_
          refine lv_iconst (v := 1) hx hb dL_law_855 (by decide) ?_
          refine lv_isub hx hb dL_law_856 ?_
          refine lv_icmp_eq (tgt := 875) hx hb dL_law_857 (by decide) (fun c_857 => ?_) (fun c_857 => ?_)
          rotate_left
          · exact absurd (by rw [e1]; exact lasts_1 G (by omega) c_846) c_857
          exact law_7 EL ht hh G G1 e1 hcE hsE (by omega) (by omega) K z2 hdn hP hD hS (lv_sub hl [3, 5, 7, 8, 9, 10, 11, 12, 13, 14, 15, 16, 17] rfl)
      ·
        refine lv_iconst (v := 0) hx hb dL_law_817 (by decide) ?_
        refine lv_aload hx hb dL_law_818 (lv_at hl 7 rfl) ?_
        refine lv_iconst (v := 2) hx hb dL_law_820 (by decide) ?_
        refine w_ildM hx hb hK hP (List.mem_append_left _ (List.mem_of_getElem? (i := 4) rfl)) rfl 2 rfl (by decide) (by decide) (v := (cntF nt f g) 2) rfl dL_law_821 ?_
        refine lv_aload hx hb dL_law_822 (lv_at hl 7 rfl) ?_
        refine lv_iconst (v := 1) hx hb dL_law_824 (by decide) ?_
        refine w_ildM hx hb hK hP (List.mem_append_left _ (List.mem_of_getElem? (i := 4) rfl)) rfl 1 rfl (by decide) (by decide) (v := (cntF nt f g) 1) rfl dL_law_825 ?_
        refine lv_iconst (v := 5) hx hb dL_law_826 (by decide) ?_
        refine lv_idiv hx hb dL_law_827 (by decide) ?_
        refine lv_isub hx hb dL_law_828 ?_
        refine w_mmax hx hb (hml.trans hl.1.symm) hown (hts _ mlL_law_64) (hts _ msL_law_max) (hts _ miL_law) (hts _ mcL_law_max) (Nat.le_of_ble_eq_true rfl) (Nat.le_of_ble_eq_true rfl) (by show _ ≤ 600130; omega) (by show _ ≤ 7301080; omega) dL_law_829 ?_
        refine lv_goto (tgt := 839) hx hb dL_law_832 (by decide) ?_
        refine lv_icmp_eq (tgt := 844) hx hb dL_law_839 (by decide) (fun c_839 => ?_) (fun c_839 => ?_)
        rotate_left
        · exact absurd (w_2y e1 c_814) c_839
        refine lv_iload hx hb dL_law_844 (lv_at hl 6 rfl) ?_
        refine lv_if_le (tgt := 875) hx hb dL_law_846 (by decide) (fun c_846 => ?_) (fun c_846 => ?_)
        ·
          exact law_7 EL ht hh G G1 e1 hcE hsE (by omega) (by omega) K z2 hdn hP hD hS (lv_sub hl [3, 5, 7, 8, 9, 10, 11, 12, 13, 14, 15, 16, 17] rfl)
        ·
          refine lv_aload_n hx hb dL_law_849 rfl (lv_at hl 16 rfl) ?_
          refine c0_V (As := []) (rest := []) (ws' := ([(mo, .inl (cI, 6, .inl mostA)), (wh, .inl (cI, 5, .inl (fun i => nI (wN i)))), (qc, .inl (cL, nc, .inr (.inr (.inr (.inr (fun i => some (r i))))))), (qt, .inl (cL, nt, .inr (.inr (.inr (.inr (fun i => some (r2 i))))))), (qh, .inl (cI, 10, .inl (cntF nt f g))), (qn, .inl (cI, 10, .inl th)), (qd, .inl (cI, nc, .inl dn))] : va_W) ++ (RT cI r2 f nt ++ (RC cI r f nc ++ ((YW cI cC cT x A (B 0) nc nt f1 g ++ CW cI cC cT B nc2 nt2 f2 g2) ++ (SM cI cL S C T nc nt f1 g))))) ⟨hx, hb, hml, hown, hts⟩ (mX3_lasts l D cI cC cT cL x (B 0) A nc nt f1 g (h + 1) (by omega) h01) (cwV 0 hts gL_law_X3_lasts rfl rfl rfl pX3_lasts ⟨by decide, by decide⟩) hK hP hD hS hA hST ((Jf_r _ (Jf_r _ (Jf_r _ (Jf_l _ (Jf_hd _ _ _ yw_fst)))))).1 0 rfl rfl rfl rfl hl.1 rfl (Nat.le_of_ble_eq_true rfl) dL_law_850 ⟨(by show _ ≤ 600130; omega), (by show _ ≤ 7301080; omega)⟩ rfl (fun H locs hP hD hS => ?_)
          refine lv_iload hx hb dL_law_853 (lv_at hl 6 rfl) ?_
          refine lv_iconst (v := 1) hx hb dL_law_855 (by decide) ?_
          refine lv_isub hx hb dL_law_856 ?_
          refine lv_icmp_eq (tgt := 875) hx hb dL_law_857 (by decide) (fun c_857 => ?_) (fun c_857 => ?_)
          rotate_left
          · exact absurd (by rw [e1]; exact lasts_1 G (by omega) c_846) c_857
          exact law_7 EL ht hh G G1 e1 hcE hsE (by omega) (by omega) K z2 hdn hP hD hS (lv_sub hl [3, 5, 7, 8, 9, 10, 11, 12, 13, 14, 15, 16, 17] rfl)
    refine lv_iload hx hb dL_law_757 (lv_at hl 2 rfl) ?_
    refine lv_if_le (tgt := 779) hx hb dL_law_759 (by decide) (fun c_759 => ?_) (fun c_759 => ?_)
    ·
      exact W.widen (by omega) (by omega) (jn779  _ _ hP hD hS _ (lv_sub hl [0, 1, 2, 3, 4, 5, 6, 7, 8, 9, 10, 11, 12, 13, 14, 15, 16, 17] rfl))
    ·
      refine lv_aload_n hx hb dL_law_762 rfl (lv_at hl 16 rfl) ?_
      refine lv_iconst (v := 5) hx hb dL_law_763 (by decide) ?_
      refine c1_V0 (xe_no (k_count (w := 5) (by decide))) (As := [.int 5]) (rest := []) (ws' := ([(mo, .inl (cI, 6, .inl mostA)), (wh, .inl (cI, 5, .inl (fun i => nI (wN i)))), (qc, .inl (cL, nc, .inr (.inr (.inr (.inr (fun i => some (r i))))))), (qt, .inl (cL, nt, .inr (.inr (.inr (.inr (fun i => some (r2 i))))))), (qh, .inl (cI, 10, .inl (cntF nt f g))), (qn, .inl (cI, 10, .inl th)), (qd, .inl (cI, nc, .inl dn))] : va_W) ++ (RT cI r2 f nt ++ (RC cI r f nc ++ ((YW cI cC cT x A (B 0) nc nt f1 g ++ CW cI cC cT B nc2 nt2 f2 g2) ++ (SM cI cL S C T nc nt f1 g))))) ⟨hx, hb, hml, hown, hts⟩ (mX3_count l D cI cC cT cL hl0 x (B 0) A nc nt f1 g 5 hnt (h + 1) (by omega) h01) (cwV 1 hts gL_law_X3_count rfl rfl rfl pX3_count ⟨by decide, by decide⟩) hK hP hD hS hA hST ((Jf_r _ (Jf_r _ (Jf_r _ (Jf_l _ (Jf_hd _ _ _ yw_fst)))))).1 ((Jf_r _ (Jf_r _ (Jf_r _ (Jf_l _ (Jf_hd _ _ _ yw_fst)))))).1 0 rfl rfl rfl rfl hl.1 rfl (Nat.le_of_ble_eq_true rfl) dL_law_764 ⟨(by show _ ≤ 600130; omega), (by show _ ≤ 7301080; omega)⟩ rfl (fun H locs hP hD hS => ?_)
      rw [show cntF nt f1 g (5 : Int32).toNatClampNeg = cntF nt f1 g 5 from rfl]
      refine lv_if_le (tgt := 779) hx hb dL_law_767 (by decide) (fun c_767 => ?_) (fun c_767 => ?_)
      ·
        exact W.widen (by omega) (by omega) (jn779  _ _ hP hD hS _ (lv_sub hl [0, 1, 2, 3, 4, 5, 6, 7, 8, 9, 10, 11, 12, 13, 14, 15, 16, 17] rfl))
      ·
        refine lv_aload_n hx hb dL_law_770 rfl (lv_at hl 16 rfl) ?_
        refine lv_bipush (v := 7) hx hb dL_law_771 (by decide) ?_
        refine c1_V0 (xe_no (k_count (w := 7) (by decide))) (As := [.int 7]) (rest := []) (ws' := ([(mo, .inl (cI, 6, .inl mostA)), (wh, .inl (cI, 5, .inl (fun i => nI (wN i)))), (qc, .inl (cL, nc, .inr (.inr (.inr (.inr (fun i => some (r i))))))), (qt, .inl (cL, nt, .inr (.inr (.inr (.inr (fun i => some (r2 i))))))), (qh, .inl (cI, 10, .inl (cntF nt f g))), (qn, .inl (cI, 10, .inl th)), (qd, .inl (cI, nc, .inl dn))] : va_W) ++ (RT cI r2 f nt ++ (RC cI r f nc ++ ((YW cI cC cT x A (B 0) nc nt f1 g ++ CW cI cC cT B nc2 nt2 f2 g2) ++ (SM cI cL S C T nc nt f1 g))))) ⟨hx, hb, hml, hown, hts⟩ (mX3_count l D cI cC cT cL hl0 x (B 0) A nc nt f1 g 7 hnt (h + 1) (by omega) h01) (cwV 1 hts gL_law_X3_count rfl rfl rfl pX3_count ⟨by decide, by decide⟩) hK hP hD hS hA hST ((Jf_r _ (Jf_r _ (Jf_r _ (Jf_l _ (Jf_hd _ _ _ yw_fst)))))).1 ((Jf_r _ (Jf_r _ (Jf_r _ (Jf_l _ (Jf_hd _ _ _ yw_fst)))))).1 0 rfl rfl rfl rfl hl.1 rfl (Nat.le_of_ble_eq_true rfl) dL_law_773 ⟨(by show _ ≤ 600130; omega), (by show _ ≤ 7301080; omega)⟩ rfl (fun H locs hP hD hS => ?_)
        rw [show cntF nt f1 g (7 : Int32).toNatClampNeg = cntF nt f1 g 7 from rfl]
        refine lv_if_gt (tgt := 842) hx hb dL_law_776 (by decide) (fun c_776 => ?_) (fun c_776 => ?_)
        · exact absurd c_776 (l6c z8 c_759 c_767)
        exact W.widen (by omega) (by omega) (jn779  _ _ hP hD hS _ (lv_sub hl [0, 1, 2, 3, 4, 5, 6, 7, 8, 9, 10, 11, 12, 13, 14, 15, 16, 17] rfl))
  refine lv_iload hx hb dL_law_688 (lv_at hl 0 rfl) ?_
  refine lv_bipush (v := 10) hx hb dL_law_690 (by decide) ?_
  refine lv_icmp_lt (tgt := 711) hx hb dL_law_692 (by decide) (fun c_692 => ?_) (fun c_692 => ?_)
  ·
    refine lv_iconst (v := 0) hx hb dL_law_711 (by decide) ?_
    exact W.widen (by omega) (by omega) (jn712 _ (z10 (in_n1 c_692)) _ _ hP hD hS _ (lv_sub hl [0, 1, 2, 3, 4, 5, 6, 7, 8, 9, 10, 11, 12, 13, 14, 15, 16] rfl))
  ·
    refine lv_iload hx hb dL_law_695 (lv_at hl 0 rfl) ?_
    refine lv_bipush (v := 18) hx hb dL_law_697 (by decide) ?_
    refine lv_icmp_gt (tgt := 711) hx hb dL_law_699 (by decide) (fun c_699 => ?_) (fun c_699 => ?_)
    ·
      refine lv_iconst (v := 0) hx hb dL_law_711 (by decide) ?_
      exact W.widen (by omega) (by omega) (jn712 _ (z10 (in_n2 c_699)) _ _ hP hD hS _ (lv_sub hl [0, 1, 2, 3, 4, 5, 6, 7, 8, 9, 10, 11, 12, 13, 14, 15, 16] rfl))
    ·
      refine lv_aload hx hb dL_law_702 (lv_at hl 6 rfl) ?_
      refine lv_iconst (v := 1) hx hb dL_law_704 (by decide) ?_
      refine w_ildM hx hb hK hP (List.mem_append_left _ (List.mem_of_getElem? (i := 4) rfl)) rfl 1 rfl (by decide) (by decide) (v := (cntF nt f g) 1) rfl dL_law_705 ?_
      refine lv_iconst (v := 4) hx hb dL_law_706 (by decide) ?_
      refine lv_idiv hx hb dL_law_707 (by decide) ?_
      refine lv_goto (tgt := 712) hx hb dL_law_708 (by decide) ?_
      exact W.widen (by omega) (by omega) (jn712 _ (z9 (in_y c_692 c_699)) _ _ hP hD hS _ (lv_sub hl [0, 1, 2, 3, 4, 5, 6, 7, 8, 9, 10, 11, 12, 13, 14, 15, 16] rfl))
