set_option maxHeartbeats 4000000 in
set_option maxRecDepth 100000 in
theorem law_7 {p : Program} {l : Launch} {e : Env} {s : State} {m : MethodId} {args : Array Value} {below : List Frame} {meth : Method} {c : Code} {Q : State → Prop} {A0 : Nat → Prop} {b L : Nat} {xs : Nat → Int32} {D : va_G} {cI cC cT cL : ClassId} {x mo wh : Nat} {A B : Nat → Nat} {time cE sE cells slots : Nat} {S C T : Nat → Nat} {nc nt h : Nat} {f g : Nat → Int32} {nc2 nt2 : Nat} {f2 g2 : Nat → Int32} {H : Heap} {locs : List Loc} {ls : Array Slot} {f1 : Nat → Int32} {qc qt qh qn qd : Nat} {r r2 : Nat → Nat} {th dn : Nat → Int32} {sv : Int32} (EL : LE p l s m args c A0 b L xs D cI cC cT cL) (ht : time < 60) (hh : h ≤ 60 + time) (G : GS2 nc nt f g h) (G1 : GS2 nc nt f1 g (h + 1)) (e1 : f1 = hourF nc nt g f) (hcE : cE ≤ 600130) (hsE : sE ≤ 7301080) (hcl : cells + 81 ≤ cE) (hsl : slots + 486 ≤ sE) (K : LK p l e s m args below meth c Q A0 b D cI cC cT cL x mo wh A B (time + 1) cE sE) (hsv : cntF nt f1 g 8 - cntF nt f g 8 = sv) (hdn : ∀ i, i < nc → dn i = doneC f g h i) (hP : va_P D vwCl (([(mo, .inl (cI, 6, .inl mostA)), (wh, .inl (cI, 5, .inl (fun i => nI (wN i)))), (qc, .inl (cL, nc, .inr (.inr (.inr (.inr (fun i => some (r i))))))), (qt, .inl (cL, nt, .inr (.inr (.inr (.inr (fun i => some (r2 i))))))), (qh, .inl (cI, 10, .inl (cntF nt f g))), (qn, .inl (cI, 10, .inl th)), (qd, .inl (cI, nc, .inl dn))] : va_W) ++ (RT cI r2 f nt ++ (RC cI r f nc ++ ((YW cI cC cT x A (B 0) nc nt f1 g ++ CW cI cC cT B nc2 nt2 f2 g2) ++ (SM cI cL S C T nc nt f1 g))))) H) (hD : va_D A0 (([(mo, .inl (cI, 6, .inl mostA)), (wh, .inl (cI, 5, .inl (fun i => nI (wN i)))), (qc, .inl (cL, nc, .inr (.inr (.inr (.inr (fun i => some (r i))))))), (qt, .inl (cL, nt, .inr (.inr (.inr (.inr (fun i => some (r2 i))))))), (qh, .inl (cI, 10, .inl (cntF nt f g))), (qn, .inl (cI, 10, .inl th)), (qd, .inl (cI, nc, .inl dn))] : va_W) ++ (RT cI r2 f nt ++ (RC cI r f nc ++ ((YW cI cC cT x A (B 0) nc nt f1 g ++ CW cI cC cT B nc2 nt2 f2 g2) ++ (SM cI cL S C T nc nt f1 g)))))) (hS : va_S A0 s.heap H locs) (hl : lv_has ls 30 [(19, .int sv), (17, .ref qd), (11, .ref qh), (10, .ref qt), (9, .ref qc), (8, .int (nI nt)), (7, .int (nI nc)), (5, .int (nI time)), (4, .ref wh), (3, .ref mo), (2, .ref (S 0)), (1, .ref x), (0, .ref b)]) : W p l e room_1 s m args below meth c H locs cells slots Q (F0 m 875 ls []) := by
  obtain ⟨hx, hb, hml, hown, hts, hK, hST, hX, hbl, hbA, hA, hl0, hN⟩ := id EL
  have hAA : va_AOA .int s := hST.2.2.2.2.2.2.2.2.2.1
  obtain ⟨⟨hnc, hnt, hI, hg, h0⟩, hz, hxc, hxt⟩ := id G
  obtain ⟨⟨-, -, hI1, hg1, h01⟩, hz1, hxc1, hxt1⟩ := id G1
  refine lv_iconst (v := 0) hx hb dL_law_875 (by decide) ?_
  refine lv_istore (lv' := [(23, .int 0), (19, .int sv), (17, .ref qd), (11, .ref qh), (10, .ref qt), (9, .ref qc), (8, .int (nI nt)), (7, .int (nI nc)), (5, .int (nI time)), (4, .ref wh), (3, .ref mo), (2, .ref (S 0)), (1, .ref x), (0, .ref b)]) hx hb dL_law_876 hl (by decide) rfl (fun ls hl => ?_)
  have lp0 : ∀ (n j : Nat), j + n = nc → ∀ (H : Heap) (locs : List Loc), va_P D vwCl (([(mo, .inl (cI, 6, .inl mostA)), (wh, .inl (cI, 5, .inl (fun i => nI (wN i)))), (qc, .inl (cL, nc, .inr (.inr (.inr (.inr (fun i => some (r i))))))), (qt, .inl (cL, nt, .inr (.inr (.inr (.inr (fun i => some (r2 i))))))), (qh, .inl (cI, 10, .inl (cntF nt f g))), (qn, .inl (cI, 10, .inl th)), (qd, .inl (cI, nc, .inl dn))] : va_W) ++ (RT cI r2 f nt ++ (RC cI r f nc ++ ((YW cI cC cT x A (B 0) nc nt f1 g ++ CW cI cC cT B nc2 nt2 f2 g2) ++ (SM cI cL S C T nc nt f1 g))))) H → va_D A0 (([(mo, .inl (cI, 6, .inl mostA)), (wh, .inl (cI, 5, .inl (fun i => nI (wN i)))), (qc, .inl (cL, nc, .inr (.inr (.inr (.inr (fun i => some (r i))))))), (qt, .inl (cL, nt, .inr (.inr (.inr (.inr (fun i => some (r2 i))))))), (qh, .inl (cI, 10, .inl (cntF nt f g))), (qn, .inl (cI, 10, .inl th)), (qd, .inl (cI, nc, .inl dn))] : va_W) ++ (RT cI r2 f nt ++ (RC cI r f nc ++ ((YW cI cC cT x A (B 0) nc nt f1 g ++ CW cI cC cT B nc2 nt2 f2 g2) ++ (SM cI cL S C T nc nt f1 g))))) → va_S A0 s.heap H locs → ∀ ls, lv_has ls 30 [(23, .int (nI j)), (19, .int sv), (17, .ref qd), (11, .ref qh), (10, .ref qt), (9, .ref qc), (8, .int (nI nt)), (7, .int (nI nc)), (5, .int (nI time)), (4, .ref wh), (3, .ref mo), (2, .ref (S 0)), (1, .ref x), (0, .ref b)] → W p l e room_1 s m args below meth c H locs (cells + 8 * j) (slots + 48 * j) Q (F0 m 878 ls []) := by
    intro n
    induction n with
    | zero =>
      intro j hj   H locs hP hD hS ls hl
      have hje : nc = j := by omega
      subst hje
      refine lv_iload hx hb dL_law_878 (lv_at hl 0 rfl) ?_
      refine lv_iload hx hb dL_law_880 (lv_at hl 7 rfl) ?_
      refine lv_icmp_ge (tgt := 1068) hx hb dL_law_882 (by decide) (fun c_882 => ?_) (fun c_882 => ?_)
      rotate_left
      · exact absurd (Int32.le_refl _) c_882
      exact law_8 EL ht hh G G1 e1 hcE hsE (by omega) (by omega) K hsv hP hD hS (lv_sub hl [1, 3, 4, 6, 8, 9, 10, 11, 12, 13] rfl)
    | succ n ih =>
      intro j hj   H locs hP hD hS ls hl
      refine lv_iload hx hb dL_law_878 (lv_at hl 0 rfl) ?_
      refine lv_iload hx hb dL_law_880 (lv_at hl 7 rfl) ?_
      refine lv_icmp_ge (tgt := 1068) hx hb dL_law_882 (by decide) (fun c_882 => ?_) (fun c_882 => ?_)
      · exact absurd c_882 (nI_ge (by omega) (by omega))
      refine lv_aload hx hb dL_law_885 (lv_at hl 5 rfl) ?_
      refine lv_iload hx hb dL_law_887 (lv_at hl 0 rfl) ?_
      refine w_qldA hx hb hK hP (List.mem_append_left _ (List.mem_of_getElem? (i := 2) rfl)) rfl j rfl (by omega) (by omega) (v := r j) rfl dL_law_889 ?_
      refine lv_astore (lv' := [(24, .ref (r j)), (23, .int (nI j)), (19, .int sv), (17, .ref qd), (11, .ref qh), (10, .ref qt), (9, .ref qc), (8, .int (nI nt)), (7, .int (nI nc)), (5, .int (nI time)), (4, .ref wh), (3, .ref mo), (2, .ref (S 0)), (1, .ref x), (0, .ref b)]) hx hb dL_law_890 hl (by decide) rfl (fun ls hl => ?_)
      refine lv_aload_n hx hb dL_law_892 rfl (lv_at hl 13 rfl) ?_
      refine lv_iload hx hb dL_law_893 (lv_at hl 1 rfl) ?_
      refine lv_iconst (v := 0) hx hb dL_law_895 (by decide) ?_
      refine c1_V0 (xe_no (k_told (n := nc) (i := j) (w := 0) (by omega) (by omega) (by decide))) (As := [.int (nI j), .int 0]) (rest := []) (ws' := ([(mo, .inl (cI, 6, .inl mostA)), (wh, .inl (cI, 5, .inl (fun i => nI (wN i)))), (qc, .inl (cL, nc, .inr (.inr (.inr (.inr (fun i => some (r i))))))), (qt, .inl (cL, nt, .inr (.inr (.inr (.inr (fun i => some (r2 i))))))), (qh, .inl (cI, 10, .inl (cntF nt f g))), (qn, .inl (cI, 10, .inl th)), (qd, .inl (cI, nc, .inl dn))] : va_W) ++ (RT cI r2 f nt ++ (RC cI r f nc ++ ((YW cI cC cT x A (B 0) nc nt f1 g ++ CW cI cC cT B nc2 nt2 f2 g2) ++ (SM cI cL S C T nc nt f1 g))))) ⟨hx, hb, hml, hown, hts⟩ (mX3_told l D cI cC cT cL hl0 x (B 0) A nc nt f1 g (nI j) 0 hnc) (cwV 2 hts gL_law_X3_told rfl rfl rfl pX3_told ⟨by decide, by decide⟩) hK hP hD hS hA hST ((Jf_r _ (Jf_r _ (Jf_r _ (Jf_l _ (Jf_hd _ _ _ yw_fst)))))).1 ((Jf_r _ (Jf_r _ (Jf_r _ (Jf_l _ (Jf_hd _ _ _ yw_fst)))))).1 0 rfl rfl rfl rfl hl.1 rfl (Nat.le_of_ble_eq_true rfl) dL_law_896 ⟨(by show _ ≤ 600130; omega), (by show _ ≤ 7301080; omega)⟩ rfl (fun H locs hP hD hS => ?_)
      rw [show pick3 (0 : Int32).toNatClampNeg (f1 (7 + 3 * (nI j).toNatClampNeg)) (f1 (8 + 3 * (nI j).toNatClampNeg)) (f1 (9 + 3 * (nI j).toNatClampNeg)) = f1 (7 + 3 * j) by rw [nI_clamp (n := j) (by omega)] <;> rfl]
      refine lv_iconst (v := 0) hx hb dL_law_899 (by decide) ?_
      refine lv_aload hx hb dL_law_900 (lv_at hl 0 rfl) ?_
      refine lv_iconst (v := 0) hx hb dL_law_902 (by decide) ?_
      refine w_ildM hx hb hK hP (List.mem_append_right _ (List.mem_append_right _ (List.mem_append_left _ (List.mem_of_getElem? (rc_get (by omega)))))) rfl 0 rfl (by decide) (by decide) (v := f (7 + 3 * j)) rfl dL_law_903 ?_
      refine lv_aload hx hb dL_law_904 (lv_at hl 4 rfl) ?_
      refine lv_iconst (v := 1) hx hb dL_law_906 (by decide) ?_
      refine w_ildM hx hb hK hP (List.mem_append_left _ (List.mem_of_getElem? (i := 4) rfl)) rfl 1 rfl (by decide) (by decide) (v := (cntF nt f g) 1) rfl dL_law_907 ?_
      refine lv_bipush (v := 10) hx hb dL_law_908 (by decide) ?_
      refine lv_idiv hx hb dL_law_910 (by decide) ?_
      refine lv_isub hx hb dL_law_911 ?_
      refine lv_iconst (v := 1) hx hb dL_law_912 (by decide) ?_
      refine lv_isub hx hb dL_law_913 ?_
      refine w_mmax hx hb (hml.trans hl.1.symm) hown (hts _ mlL_law_64) (hts _ msL_law_max) (hts _ miL_law) (hts _ mcL_law_max) (Nat.le_of_ble_eq_true rfl) (Nat.le_of_ble_eq_true rfl) (by show _ ≤ 600130; omega) (by show _ ≤ 7301080; omega) dL_law_914 ?_
      refine lv_icmp_ne (tgt := 985) hx hb dL_law_917 (by decide) (fun c_917 => ?_) (fun c_917 => ?_)
      · exact absurd (ch_a e1 hnc (by omega)) c_917
      refine lv_aload_n hx hb dL_law_920 rfl (lv_at hl 13 rfl) ?_
      refine lv_iload hx hb dL_law_921 (lv_at hl 1 rfl) ?_
      refine lv_iconst (v := 1) hx hb dL_law_923 (by decide) ?_
      refine c1_V0 (xe_no (k_told (n := nc) (i := j) (w := 1) (by omega) (by omega) (by decide))) (As := [.int (nI j), .int 1]) (rest := []) (ws' := ([(mo, .inl (cI, 6, .inl mostA)), (wh, .inl (cI, 5, .inl (fun i => nI (wN i)))), (qc, .inl (cL, nc, .inr (.inr (.inr (.inr (fun i => some (r i))))))), (qt, .inl (cL, nt, .inr (.inr (.inr (.inr (fun i => some (r2 i))))))), (qh, .inl (cI, 10, .inl (cntF nt f g))), (qn, .inl (cI, 10, .inl th)), (qd, .inl (cI, nc, .inl dn))] : va_W) ++ (RT cI r2 f nt ++ (RC cI r f nc ++ ((YW cI cC cT x A (B 0) nc nt f1 g ++ CW cI cC cT B nc2 nt2 f2 g2) ++ (SM cI cL S C T nc nt f1 g))))) ⟨hx, hb, hml, hown, hts⟩ (mX3_told l D cI cC cT cL hl0 x (B 0) A nc nt f1 g (nI j) 1 hnc) (cwV 2 hts gL_law_X3_told rfl rfl rfl pX3_told ⟨by decide, by decide⟩) hK hP hD hS hA hST ((Jf_r _ (Jf_r _ (Jf_r _ (Jf_l _ (Jf_hd _ _ _ yw_fst)))))).1 ((Jf_r _ (Jf_r _ (Jf_r _ (Jf_l _ (Jf_hd _ _ _ yw_fst)))))).1 0 rfl rfl rfl rfl hl.1 rfl (Nat.le_of_ble_eq_true rfl) dL_law_924 ⟨(by show _ ≤ 600130; omega), (by show _ ≤ 7301080; omega)⟩ rfl (fun H locs hP hD hS => ?_)
      rw [show pick3 (1 : Int32).toNatClampNeg (f1 (7 + 3 * (nI j).toNatClampNeg)) (f1 (8 + 3 * (nI j).toNatClampNeg)) (f1 (9 + 3 * (nI j).toNatClampNeg)) = f1 (8 + 3 * j) by rw [nI_clamp (n := j) (by omega)] <;> rfl]
      refine lv_aload hx hb dL_law_927 (lv_at hl 0 rfl) ?_
      refine lv_iconst (v := 1) hx hb dL_law_929 (by decide) ?_
      refine w_ildM hx hb hK hP (List.mem_append_right _ (List.mem_append_right _ (List.mem_append_left _ (List.mem_of_getElem? (rc_get (by omega)))))) rfl 1 rfl (by decide) (by decide) (v := f (8 + 3 * j)) rfl dL_law_930 ?_
      refine lv_icmp_ne (tgt := 985) hx hb dL_law_931 (by decide) (fun c_931 => ?_) (fun c_931 => ?_)
      · exact absurd (ch_b e1 hnc (by omega)) c_931
      refine lv_aload_n hx hb dL_law_934 rfl (lv_at hl 13 rfl) ?_
      refine lv_iload hx hb dL_law_935 (lv_at hl 1 rfl) ?_
      refine lv_iconst (v := 2) hx hb dL_law_937 (by decide) ?_
      refine c1_V0 (xe_no (k_told (n := nc) (i := j) (w := 2) (by omega) (by omega) (by decide))) (As := [.int (nI j), .int 2]) (rest := []) (ws' := ([(mo, .inl (cI, 6, .inl mostA)), (wh, .inl (cI, 5, .inl (fun i => nI (wN i)))), (qc, .inl (cL, nc, .inr (.inr (.inr (.inr (fun i => some (r i))))))), (qt, .inl (cL, nt, .inr (.inr (.inr (.inr (fun i => some (r2 i))))))), (qh, .inl (cI, 10, .inl (cntF nt f g))), (qn, .inl (cI, 10, .inl th)), (qd, .inl (cI, nc, .inl dn))] : va_W) ++ (RT cI r2 f nt ++ (RC cI r f nc ++ ((YW cI cC cT x A (B 0) nc nt f1 g ++ CW cI cC cT B nc2 nt2 f2 g2) ++ (SM cI cL S C T nc nt f1 g))))) ⟨hx, hb, hml, hown, hts⟩ (mX3_told l D cI cC cT cL hl0 x (B 0) A nc nt f1 g (nI j) 2 hnc) (cwV 2 hts gL_law_X3_told rfl rfl rfl pX3_told ⟨by decide, by decide⟩) hK hP hD hS hA hST ((Jf_r _ (Jf_r _ (Jf_r _ (Jf_l _ (Jf_hd _ _ _ yw_fst)))))).1 ((Jf_r _ (Jf_r _ (Jf_r _ (Jf_l _ (Jf_hd _ _ _ yw_fst)))))).1 0 rfl rfl rfl rfl hl.1 rfl (Nat.le_of_ble_eq_true rfl) dL_law_938 ⟨(by show _ ≤ 600130; omega), (by show _ ≤ 7301080; omega)⟩ rfl (fun H locs hP hD hS => ?_)
      rw [show pick3 (2 : Int32).toNatClampNeg (f1 (7 + 3 * (nI j).toNatClampNeg)) (f1 (8 + 3 * (nI j).toNatClampNeg)) (f1 (9 + 3 * (nI j).toNatClampNeg)) = f1 (9 + 3 * j) by rw [nI_clamp (n := j) (by omega)] <;> rfl]
      refine lv_aload hx hb dL_law_941 (lv_at hl 0 rfl) ?_
      refine lv_iconst (v := 1) hx hb dL_law_943 (by decide) ?_
      refine w_ildM hx hb hK hP (List.mem_append_right _ (List.mem_append_right _ (List.mem_append_left _ (List.mem_of_getElem? (rc_get (by omega)))))) rfl 1 rfl (by decide) (by decide) (v := f (8 + 3 * j)) rfl dL_law_944 ?_
      refine lv_if_ne (tgt := 952) hx hb dL_law_945 (by decide) (fun c_945 => ?_) (fun c_945 => ?_)
      ·
        refine lv_bipush (v := 100) hx hb dL_law_952 (by decide) ?_
        refine lv_aload hx hb dL_law_954 (lv_at hl 0 rfl) ?_
        refine lv_iconst (v := 2) hx hb dL_law_956 (by decide) ?_
        refine w_ildM hx hb hK hP (List.mem_append_right _ (List.mem_append_right _ (List.mem_append_left _ (List.mem_of_getElem? (rc_get (by omega)))))) rfl 2 rfl (by decide) (by decide) (v := f (9 + 3 * j)) rfl dL_law_957 ?_
        refine lv_aload hx hb dL_law_958 (lv_at hl 0 rfl) ?_
        refine lv_iconst (v := 0) hx hb dL_law_960 (by decide) ?_
        refine w_ildM hx hb hK hP (List.mem_append_right _ (List.mem_append_right _ (List.mem_append_left _ (List.mem_of_getElem? (rc_get (by omega)))))) rfl 0 rfl (by decide) (by decide) (v := f (7 + 3 * j)) rfl dL_law_961 ?_
        refine lv_iconst (v := 3) hx hb dL_law_962 (by decide) ?_
        refine lv_idiv hx hb dL_law_963 (by decide) ?_
        refine lv_iadd hx hb dL_law_964 ?_
        refine w_mmin hx hb (hml.trans hl.1.symm) hown (hts _ mlL_law_28) (hts _ msL_law_min) (hts _ miL_law) (hts _ mcL_law_min) (Nat.le_of_ble_eq_true rfl) (Nat.le_of_ble_eq_true rfl) (by show _ ≤ 600130; omega) (by show _ ≤ 7301080; omega) dL_law_965 ?_
        refine lv_icmp_ne (tgt := 985) hx hb dL_law_968 (by decide) (fun c_968 => ?_) (fun c_968 => ?_)
        · exact absurd (ch_c e1 hnc (by omega) hI c_945) c_968
        refine lv_aload hx hb dL_law_971 (lv_at hl 0 rfl) ?_
        refine lv_iconst (v := 1) hx hb dL_law_973 (by decide) ?_
        refine w_ildM hx hb hK hP (List.mem_append_right _ (List.mem_append_right _ (List.mem_append_left _ (List.mem_of_getElem? (rc_get (by omega)))))) rfl 1 rfl (by decide) (by decide) (v := f (8 + 3 * j)) rfl dL_law_974 ?_
        refine lv_if_ne (tgt := 987) hx hb dL_law_975 (by decide) (fun c_975 => ?_) (fun c_975 => ?_)
        rotate_left
        · exact absurd c_975 c_945
        refine lv_aload hx hb dL_law_987 (lv_at hl 3 rfl) ?_
        refine lv_iload hx hb dL_law_989 (lv_at hl 1 rfl) ?_
        refine w_ildM hx hb hK hP (List.mem_append_left _ (List.mem_of_getElem? (i := 6) rfl)) rfl j rfl (by omega) (by omega) (v := doneC f g h j) (hdn _ (by omega)) dL_law_991 ?_
        refine lv_if_le (tgt := 1011) hx hb dL_law_992 (by decide) (fun c_992 => ?_) (fun c_992 => ?_)
        ·
          refine lv_aload hx hb dL_law_1011 (lv_at hl 3 rfl) ?_
          refine lv_iload hx hb dL_law_1013 (lv_at hl 1 rfl) ?_
          refine w_ildM hx hb hK hP (List.mem_append_left _ (List.mem_of_getElem? (i := 6) rfl)) rfl j rfl (by omega) (by omega) (v := doneC f g h j) (hdn _ (by omega)) dL_law_1015 ?_
          refine lv_if_ne (tgt := 1028) hx hb dL_law_1016 (by decide) (fun c_1016 => ?_) (fun c_1016 => ?_)
          ·
            refine lv_aload hx hb dL_law_1028 (lv_at hl 0 rfl) ?_
            refine lv_iconst (v := 0) hx hb dL_law_1030 (by decide) ?_
            refine w_ildM hx hb hK hP (List.mem_append_right _ (List.mem_append_right _ (List.mem_append_left _ (List.mem_of_getElem? (rc_get (by omega)))))) rfl 0 rfl (by decide) (by decide) (v := f (7 + 3 * j)) rfl dL_law_1031 ?_
            refine lv_if_lt (tgt := 1060) hx hb dL_law_1032 (by decide) (fun c_1032 => ?_) (fun c_1032 => ?_)
            · exact absurd c_1032 (bd_n0 (hI.2.1 j (by omega)).1)
            refine lv_aload hx hb dL_law_1035 (lv_at hl 0 rfl) ?_
            refine lv_iconst (v := 0) hx hb dL_law_1037 (by decide) ?_
            refine w_ildM hx hb hK hP (List.mem_append_right _ (List.mem_append_right _ (List.mem_append_left _ (List.mem_of_getElem? (rc_get (by omega)))))) rfl 0 rfl (by decide) (by decide) (v := f (7 + 3 * j)) rfl dL_law_1038 ?_
            refine lv_bipush (v := 30) hx hb dL_law_1039 (by decide) ?_
            refine lv_icmp_gt (tgt := 1060) hx hb dL_law_1041 (by decide) (fun c_1041 => ?_) (fun c_1041 => ?_)
            · exact absurd c_1041 (bd_30 (hI.2.1 j (by omega)).1)
            refine lv_aload hx hb dL_law_1044 (lv_at hl 0 rfl) ?_
            refine lv_iconst (v := 1) hx hb dL_law_1046 (by decide) ?_
            refine w_ildM hx hb hK hP (List.mem_append_right _ (List.mem_append_right _ (List.mem_append_left _ (List.mem_of_getElem? (rc_get (by omega)))))) rfl 1 rfl (by decide) (by decide) (v := f (8 + 3 * j)) rfl dL_law_1047 ?_
            refine lv_if_lt (tgt := 1060) hx hb dL_law_1048 (by decide) (fun c_1048 => ?_) (fun c_1048 => ?_)
            · exact absurd c_1048 (bd_n0 (hI.2.1 j (by omega)).2.1)
            refine lv_aload hx hb dL_law_1051 (lv_at hl 0 rfl) ?_
            refine lv_iconst (v := 1) hx hb dL_law_1053 (by decide) ?_
            refine w_ildM hx hb hK hP (List.mem_append_right _ (List.mem_append_right _ (List.mem_append_left _ (List.mem_of_getElem? (rc_get (by omega)))))) rfl 1 rfl (by decide) (by decide) (v := f (8 + 3 * j)) rfl dL_law_1054 ?_
            refine lv_bipush (v := 20) hx hb dL_law_1055 (by decide) ?_
            refine lv_icmp_le (tgt := 1062) hx hb dL_law_1057 (by decide) (fun c_1057 => ?_) (fun c_1057 => ?_)
            rotate_left
            · exact absurd (bd_20 (hI.2.1 j (by omega)).2.1) c_1057
            refine lv_iinc (v := nI (j + 1)) (lv' := [(23, .int (nI (j + 1))), (24, .ref (r j)), (19, .int sv), (17, .ref qd), (11, .ref qh), (10, .ref qt), (9, .ref qc), (8, .int (nI nt)), (7, .int (nI nc)), (5, .int (nI time)), (4, .ref wh), (3, .ref mo), (2, .ref (S 0)), (1, .ref x), (0, .ref b)]) hx hb dL_law_1062 hl (k := 1) rfl (nI_succ _).symm (by decide) rfl (fun ls hl => ?_)
            refine lv_goto (tgt := 878) hx hb dL_law_1065 (by decide) ?_
            exact W.widen (by omega) (by omega) (ih (j + 1) (by omega) _ _ hP hD hS _ (lv_sub hl [0, 2, 3, 4, 5, 6, 7, 8, 9, 10, 11, 12, 13, 14] rfl))
          ·
            refine lv_aload_n hx hb dL_law_1019 rfl (lv_at hl 13 rfl) ?_
            refine lv_iload hx hb dL_law_1020 (lv_at hl 1 rfl) ?_
            refine c1_V0 (xe_no (k_done (n := nc) (i := j) (by omega) (by omega))) (As := [.int (nI j)]) (rest := []) (ws' := ([(mo, .inl (cI, 6, .inl mostA)), (wh, .inl (cI, 5, .inl (fun i => nI (wN i)))), (qc, .inl (cL, nc, .inr (.inr (.inr (.inr (fun i => some (r i))))))), (qt, .inl (cL, nt, .inr (.inr (.inr (.inr (fun i => some (r2 i))))))), (qh, .inl (cI, 10, .inl (cntF nt f g))), (qn, .inl (cI, 10, .inl th)), (qd, .inl (cI, nc, .inl dn))] : va_W) ++ (RT cI r2 f nt ++ (RC cI r f nc ++ ((YW cI cC cT x A (B 0) nc nt f1 g ++ CW cI cC cT B nc2 nt2 f2 g2) ++ (SM cI cL S C T nc nt f1 g))))) ⟨hx, hb, hml, hown, hts⟩ (mX3_done l D cI cC cT cL hl0 x (B 0) A nc nt f1 g (nI j) hnc (h + 1) (by omega) h01) (cwV 1 hts gL_law_X3_done rfl rfl rfl pX3_done ⟨by decide, by decide⟩) hK hP hD hS hA hST ((Jf_r _ (Jf_r _ (Jf_r _ (Jf_l _ (Jf_hd _ _ _ yw_fst)))))).1 ((Jf_r _ (Jf_r _ (Jf_r _ (Jf_l _ (Jf_hd _ _ _ yw_fst)))))).1 0 rfl rfl rfl rfl hl.1 rfl (Nat.le_of_ble_eq_true rfl) dL_law_1022 ⟨(by show _ ≤ 600130; omega), (by show _ ≤ 7301080; omega)⟩ rfl (fun H locs hP hD hS => ?_)
            rw [nI_clamp (n := j) (by omega)]
            refine lv_if_ne (tgt := 1060) hx hb dL_law_1025 (by decide) (fun c_1025 => ?_) (fun c_1025 => ?_)
            · exact absurd (by rw [e1]; exact done_0 G (by omega) (by omega) c_1016) c_1025
            refine lv_aload hx hb dL_law_1028 (lv_at hl 0 rfl) ?_
            refine lv_iconst (v := 0) hx hb dL_law_1030 (by decide) ?_
            refine w_ildM hx hb hK hP (List.mem_append_right _ (List.mem_append_right _ (List.mem_append_left _ (List.mem_of_getElem? (rc_get (by omega)))))) rfl 0 rfl (by decide) (by decide) (v := f (7 + 3 * j)) rfl dL_law_1031 ?_
            refine lv_if_lt (tgt := 1060) hx hb dL_law_1032 (by decide) (fun c_1032 => ?_) (fun c_1032 => ?_)
            · exact absurd c_1032 (bd_n0 (hI.2.1 j (by omega)).1)
            refine lv_aload hx hb dL_law_1035 (lv_at hl 0 rfl) ?_
            refine lv_iconst (v := 0) hx hb dL_law_1037 (by decide) ?_
            refine w_ildM hx hb hK hP (List.mem_append_right _ (List.mem_append_right _ (List.mem_append_left _ (List.mem_of_getElem? (rc_get (by omega)))))) rfl 0 rfl (by decide) (by decide) (v := f (7 + 3 * j)) rfl dL_law_1038 ?_
            refine lv_bipush (v := 30) hx hb dL_law_1039 (by decide) ?_
            refine lv_icmp_gt (tgt := 1060) hx hb dL_law_1041 (by decide) (fun c_1041 => ?_) (fun c_1041 => ?_)
            · exact absurd c_1041 (bd_30 (hI.2.1 j (by omega)).1)
            refine lv_aload hx hb dL_law_1044 (lv_at hl 0 rfl) ?_
            refine lv_iconst (v := 1) hx hb dL_law_1046 (by decide) ?_
            refine w_ildM hx hb hK hP (List.mem_append_right _ (List.mem_append_right _ (List.mem_append_left _ (List.mem_of_getElem? (rc_get (by omega)))))) rfl 1 rfl (by decide) (by decide) (v := f (8 + 3 * j)) rfl dL_law_1047 ?_
            refine lv_if_lt (tgt := 1060) hx hb dL_law_1048 (by decide) (fun c_1048 => ?_) (fun c_1048 => ?_)
            · exact absurd c_1048 (bd_n0 (hI.2.1 j (by omega)).2.1)
            refine lv_aload hx hb dL_law_1051 (lv_at hl 0 rfl) ?_
            refine lv_iconst (v := 1) hx hb dL_law_1053 (by decide) ?_
            refine w_ildM hx hb hK hP (List.mem_append_right _ (List.mem_append_right _ (List.mem_append_left _ (List.mem_of_getElem? (rc_get (by omega)))))) rfl 1 rfl (by decide) (by decide) (v := f (8 + 3 * j)) rfl dL_law_1054 ?_
            refine lv_bipush (v := 20) hx hb dL_law_1055 (by decide) ?_
            refine lv_icmp_le (tgt := 1062) hx hb dL_law_1057 (by decide) (fun c_1057 => ?_) (fun c_1057 => ?_)
            rotate_left
            · exact absurd (bd_20 (hI.2.1 j (by omega)).2.1) c_1057
            refine lv_iinc (v := nI (j + 1)) (lv' := [(23, .int (nI (j + 1))), (24, .ref (r j)), (19, .int sv), (17, .ref qd), (11, .ref qh), (10, .ref qt), (9, .ref qc), (8, .int (nI nt)), (7, .int (nI nc)), (5, .int (nI time)), (4, .ref wh), (3, .ref mo), (2, .ref (S 0)), (1, .ref x), (0, .ref b)]) hx hb dL_law_1062 hl (k := 1) rfl (nI_succ _).symm (by decide) rfl (fun ls hl => ?_)
            refine lv_goto (tgt := 878) hx hb dL_law_1065 (by decide) ?_
            exact W.widen (by omega) (by omega) (ih (j + 1) (by omega) _ _ hP hD hS _ (lv_sub hl [0, 2, 3, 4, 5, 6, 7, 8, 9, 10, 11, 12, 13, 14] rfl))
        ·
          refine lv_aload_n hx hb dL_law_995 rfl (lv_at hl 13 rfl) ?_
          refine lv_iload hx hb dL_law_996 (lv_at hl 1 rfl) ?_
          refine c1_V0 (xe_no (k_done (n := nc) (i := j) (by omega) (by omega))) (As := [.int (nI j)]) (rest := []) (ws' := ([(mo, .inl (cI, 6, .inl mostA)), (wh, .inl (cI, 5, .inl (fun i => nI (wN i)))), (qc, .inl (cL, nc, .inr (.inr (.inr (.inr (fun i => some (r i))))))), (qt, .inl (cL, nt, .inr (.inr (.inr (.inr (fun i => some (r2 i))))))), (qh, .inl (cI, 10, .inl (cntF nt f g))), (qn, .inl (cI, 10, .inl th)), (qd, .inl (cI, nc, .inl dn))] : va_W) ++ (RT cI r2 f nt ++ (RC cI r f nc ++ ((YW cI cC cT x A (B 0) nc nt f1 g ++ CW cI cC cT B nc2 nt2 f2 g2) ++ (SM cI cL S C T nc nt f1 g))))) ⟨hx, hb, hml, hown, hts⟩ (mX3_done l D cI cC cT cL hl0 x (B 0) A nc nt f1 g (nI j) hnc (h + 1) (by omega) h01) (cwV 1 hts gL_law_X3_done rfl rfl rfl pX3_done ⟨by decide, by decide⟩) hK hP hD hS hA hST ((Jf_r _ (Jf_r _ (Jf_r _ (Jf_l _ (Jf_hd _ _ _ yw_fst)))))).1 ((Jf_r _ (Jf_r _ (Jf_r _ (Jf_l _ (Jf_hd _ _ _ yw_fst)))))).1 0 rfl rfl rfl rfl hl.1 rfl (Nat.le_of_ble_eq_true rfl) dL_law_998 ⟨(by show _ ≤ 600130; omega), (by show _ ≤ 7301080; omega)⟩ rfl (fun H locs hP hD hS => ?_)
          rw [nI_clamp (n := j) (by omega)]
          refine lv_aload hx hb dL_law_1001 (lv_at hl 3 rfl) ?_
          refine lv_iload hx hb dL_law_1003 (lv_at hl 1 rfl) ?_
          refine w_ildM hx hb hK hP (List.mem_append_left _ (List.mem_of_getElem? (i := 6) rfl)) rfl j rfl (by omega) (by omega) (v := doneC f g h j) (hdn _ (by omega)) dL_law_1005 ?_
          refine lv_iconst (v := 1) hx hb dL_law_1006 (by decide) ?_
          refine lv_isub hx hb dL_law_1007 ?_
          refine lv_icmp_ne (tgt := 1060) hx hb dL_law_1008 (by decide) (fun c_1008 => ?_) (fun c_1008 => ?_)
          · exact absurd (by rw [e1]; exact done_1 G (by omega) (by omega) c_992) c_1008
          refine lv_aload hx hb dL_law_1011 (lv_at hl 3 rfl) ?_
          refine lv_iload hx hb dL_law_1013 (lv_at hl 1 rfl) ?_
          refine w_ildM hx hb hK hP (List.mem_append_left _ (List.mem_of_getElem? (i := 6) rfl)) rfl j rfl (by omega) (by omega) (v := doneC f g h j) (hdn _ (by omega)) dL_law_1015 ?_
          refine lv_if_ne (tgt := 1028) hx hb dL_law_1016 (by decide) (fun c_1016 => ?_) (fun c_1016 => ?_)
          rotate_left
          · exact absurd (by rw [c_1016]; decide) c_992
          refine lv_aload hx hb dL_law_1028 (lv_at hl 0 rfl) ?_
          refine lv_iconst (v := 0) hx hb dL_law_1030 (by decide) ?_
          refine w_ildM hx hb hK hP (List.mem_append_right _ (List.mem_append_right _ (List.mem_append_left _ (List.mem_of_getElem? (rc_get (by omega)))))) rfl 0 rfl (by decide) (by decide) (v := f (7 + 3 * j)) rfl dL_law_1031 ?_
          refine lv_if_lt (tgt := 1060) hx hb dL_law_1032 (by decide) (fun c_1032 => ?_) (fun c_1032 => ?_)
          · exact absurd c_1032 (bd_n0 (hI.2.1 j (by omega)).1)
          refine lv_aload hx hb dL_law_1035 (lv_at hl 0 rfl) ?_
          refine lv_iconst (v := 0) hx hb dL_law_1037 (by decide) ?_
          refine w_ildM hx hb hK hP (List.mem_append_right _ (List.mem_append_right _ (List.mem_append_left _ (List.mem_of_getElem? (rc_get (by omega)))))) rfl 0 rfl (by decide) (by decide) (v := f (7 + 3 * j)) rfl dL_law_1038 ?_
          refine lv_bipush (v := 30) hx hb dL_law_1039 (by decide) ?_
          refine lv_icmp_gt (tgt := 1060) hx hb dL_law_1041 (by decide) (fun c_1041 => ?_) (fun c_1041 => ?_)
          · exact absurd c_1041 (bd_30 (hI.2.1 j (by omega)).1)
          refine lv_aload hx hb dL_law_1044 (lv_at hl 0 rfl) ?_
          refine lv_iconst (v := 1) hx hb dL_law_1046 (by decide) ?_
          refine w_ildM hx hb hK hP (List.mem_append_right _ (List.mem_append_right _ (List.mem_append_left _ (List.mem_of_getElem? (rc_get (by omega)))))) rfl 1 rfl (by decide) (by decide) (v := f (8 + 3 * j)) rfl dL_law_1047 ?_
          refine lv_if_lt (tgt := 1060) hx hb dL_law_1048 (by decide) (fun c_1048 => ?_) (fun c_1048 => ?_)
          · exact absurd c_1048 (bd_n0 (hI.2.1 j (by omega)).2.1)
          refine lv_aload hx hb dL_law_1051 (lv_at hl 0 rfl) ?_
          refine lv_iconst (v := 1) hx hb dL_law_1053 (by decide) ?_
          refine w_ildM hx hb hK hP (List.mem_append_right _ (List.mem_append_right _ (List.mem_append_left _ (List.mem_of_getElem? (rc_get (by omega)))))) rfl 1 rfl (by decide) (by decide) (v := f (8 + 3 * j)) rfl dL_law_1054 ?_
          refine lv_bipush (v := 20) hx hb dL_law_1055 (by decide) ?_
          refine lv_icmp_le (tgt := 1062) hx hb dL_law_1057 (by decide) (fun c_1057 => ?_) (fun c_1057 => ?_)
          rotate_left
          · exact absurd (bd_20 (hI.2.1 j (by omega)).2.1) c_1057
          refine lv_iinc (v := nI (j + 1)) (lv' := [(23, .int (nI (j + 1))), (24, .ref (r j)), (19, .int sv), (17, .ref qd), (11, .ref qh), (10, .ref qt), (9, .ref qc), (8, .int (nI nt)), (7, .int (nI nc)), (5, .int (nI time)), (4, .ref wh), (3, .ref mo), (2, .ref (S 0)), (1, .ref x), (0, .ref b)]) hx hb dL_law_1062 hl (k := 1) rfl (nI_succ _).symm (by decide) rfl (fun ls hl => ?_)
          refine lv_goto (tgt := 878) hx hb dL_law_1065 (by decide) ?_
          exact W.widen (by omega) (by omega) (ih (j + 1) (by omega) _ _ hP hD hS _ (lv_sub hl [0, 2, 3, 4, 5, 6, 7, 8, 9, 10, 11, 12, 13, 14] rfl))
      ·
        refine lv_iconst (v := 0) hx hb dL_law_948 (by decide) ?_
        refine lv_goto (tgt := 968) hx hb dL_law_949 (by decide) ?_
        refine lv_icmp_ne (tgt := 985) hx hb dL_law_968 (by decide) (fun c_968 => ?_) (fun c_968 => ?_)
        · exact absurd (ch_d e1 hnc (by omega) hxc c_945) c_968
        refine lv_aload hx hb dL_law_971 (lv_at hl 0 rfl) ?_
        refine lv_iconst (v := 1) hx hb dL_law_973 (by decide) ?_
        refine w_ildM hx hb hK hP (List.mem_append_right _ (List.mem_append_right _ (List.mem_append_left _ (List.mem_of_getElem? (rc_get (by omega)))))) rfl 1 rfl (by decide) (by decide) (v := f (8 + 3 * j)) rfl dL_law_974 ?_
        refine lv_if_ne (tgt := 987) hx hb dL_law_975 (by decide) (fun c_975 => ?_) (fun c_975 => ?_)
        · exact absurd c_945 c_975
        refine lv_aload hx hb dL_law_978 (lv_at hl 0 rfl) ?_
        refine lv_iconst (v := 2) hx hb dL_law_980 (by decide) ?_
        refine w_ildM hx hb hK hP (List.mem_append_right _ (List.mem_append_right _ (List.mem_append_left _ (List.mem_of_getElem? (rc_get (by omega)))))) rfl 2 rfl (by decide) (by decide) (v := f (9 + 3 * j)) rfl dL_law_981 ?_
        refine lv_if_eq (tgt := 987) hx hb dL_law_982 (by decide) (fun c_982 => ?_) (fun c_982 => ?_)
        rotate_left
        · exact absurd (hxc j (by omega) c_945) c_982
        refine lv_aload hx hb dL_law_987 (lv_at hl 3 rfl) ?_
        refine lv_iload hx hb dL_law_989 (lv_at hl 1 rfl) ?_
        refine w_ildM hx hb hK hP (List.mem_append_left _ (List.mem_of_getElem? (i := 6) rfl)) rfl j rfl (by omega) (by omega) (v := doneC f g h j) (hdn _ (by omega)) dL_law_991 ?_
        refine lv_if_le (tgt := 1011) hx hb dL_law_992 (by decide) (fun c_992 => ?_) (fun c_992 => ?_)
        ·
          refine lv_aload hx hb dL_law_1011 (lv_at hl 3 rfl) ?_
          refine lv_iload hx hb dL_law_1013 (lv_at hl 1 rfl) ?_
          refine w_ildM hx hb hK hP (List.mem_append_left _ (List.mem_of_getElem? (i := 6) rfl)) rfl j rfl (by omega) (by omega) (v := doneC f g h j) (hdn _ (by omega)) dL_law_1015 ?_
          refine lv_if_ne (tgt := 1028) hx hb dL_law_1016 (by decide) (fun c_1016 => ?_) (fun c_1016 => ?_)
          ·
            refine lv_aload hx hb dL_law_1028 (lv_at hl 0 rfl) ?_
            refine lv_iconst (v := 0) hx hb dL_law_1030 (by decide) ?_
            refine w_ildM hx hb hK hP (List.mem_append_right _ (List.mem_append_right _ (List.mem_append_left _ (List.mem_of_getElem? (rc_get (by omega)))))) rfl 0 rfl (by decide) (by decide) (v := f (7 + 3 * j)) rfl dL_law_1031 ?_
            refine lv_if_lt (tgt := 1060) hx hb dL_law_1032 (by decide) (fun c_1032 => ?_) (fun c_1032 => ?_)
            · exact absurd c_1032 (bd_n0 (hI.2.1 j (by omega)).1)
            refine lv_aload hx hb dL_law_1035 (lv_at hl 0 rfl) ?_
            refine lv_iconst (v := 0) hx hb dL_law_1037 (by decide) ?_
            refine w_ildM hx hb hK hP (List.mem_append_right _ (List.mem_append_right _ (List.mem_append_left _ (List.mem_of_getElem? (rc_get (by omega)))))) rfl 0 rfl (by decide) (by decide) (v := f (7 + 3 * j)) rfl dL_law_1038 ?_
            refine lv_bipush (v := 30) hx hb dL_law_1039 (by decide) ?_
            refine lv_icmp_gt (tgt := 1060) hx hb dL_law_1041 (by decide) (fun c_1041 => ?_) (fun c_1041 => ?_)
            · exact absurd c_1041 (bd_30 (hI.2.1 j (by omega)).1)
            refine lv_aload hx hb dL_law_1044 (lv_at hl 0 rfl) ?_
            refine lv_iconst (v := 1) hx hb dL_law_1046 (by decide) ?_
            refine w_ildM hx hb hK hP (List.mem_append_right _ (List.mem_append_right _ (List.mem_append_left _ (List.mem_of_getElem? (rc_get (by omega)))))) rfl 1 rfl (by decide) (by decide) (v := f (8 + 3 * j)) rfl dL_law_1047 ?_
            refine lv_if_lt (tgt := 1060) hx hb dL_law_1048 (by decide) (fun c_1048 => ?_) (fun c_1048 => ?_)
            · exact absurd c_1048 (bd_n0 (hI.2.1 j (by omega)).2.1)
            refine lv_aload hx hb dL_law_1051 (lv_at hl 0 rfl) ?_
            refine lv_iconst (v := 1) hx hb dL_law_1053 (by decide) ?_
            refine w_ildM hx hb hK hP (List.mem_append_right _ (List.mem_append_right _ (List.mem_append_left _ (List.mem_of_getElem? (rc_get (by omega)))))) rfl 1 rfl (by decide) (by decide) (v := f (8 + 3 * j)) rfl dL_law_1054 ?_
            refine lv_bipush (v := 20) hx hb dL_law_1055 (by decide) ?_
            refine lv_icmp_le (tgt := 1062) hx hb dL_law_1057 (by decide) (fun c_1057 => ?_) (fun c_1057 => ?_)
            rotate_left
            · exact absurd (bd_20 (hI.2.1 j (by omega)).2.1) c_1057
            refine lv_iinc (v := nI (j + 1)) (lv' := [(23, .int (nI (j + 1))), (24, .ref (r j)), (19, .int sv), (17, .ref qd), (11, .ref qh), (10, .ref qt), (9, .ref qc), (8, .int (nI nt)), (7, .int (nI nc)), (5, .int (nI time)), (4, .ref wh), (3, .ref mo), (2, .ref (S 0)), (1, .ref x), (0, .ref b)]) hx hb dL_law_1062 hl (k := 1) rfl (nI_succ _).symm (by decide) rfl (fun ls hl => ?_)
            refine lv_goto (tgt := 878) hx hb dL_law_1065 (by decide) ?_
            exact W.widen (by omega) (by omega) (ih (j + 1) (by omega) _ _ hP hD hS _ (lv_sub hl [0, 2, 3, 4, 5, 6, 7, 8, 9, 10, 11, 12, 13, 14] rfl))
          ·
            refine lv_aload_n hx hb dL_law_1019 rfl (lv_at hl 13 rfl) ?_
            refine lv_iload hx hb dL_law_1020 (lv_at hl 1 rfl) ?_
            refine c1_V0 (xe_no (k_done (n := nc) (i := j) (by omega) (by omega))) (As := [.int (nI j)]) (rest := []) (ws' := ([(mo, .inl (cI, 6, .inl mostA)), (wh, .inl (cI, 5, .inl (fun i => nI (wN i)))), (qc, .inl (cL, nc, .inr (.inr (.inr (.inr (fun i => some (r i))))))), (qt, .inl (cL, nt, .inr (.inr (.inr (.inr (fun i => some (r2 i))))))), (qh, .inl (cI, 10, .inl (cntF nt f g))), (qn, .inl (cI, 10, .inl th)), (qd, .inl (cI, nc, .inl dn))] : va_W) ++ (RT cI r2 f nt ++ (RC cI r f nc ++ ((YW cI cC cT x A (B 0) nc nt f1 g ++ CW cI cC cT B nc2 nt2 f2 g2) ++ (SM cI cL S C T nc nt f1 g))))) ⟨hx, hb, hml, hown, hts⟩ (mX3_done l D cI cC cT cL hl0 x (B 0) A nc nt f1 g (nI j) hnc (h + 1) (by omega) h01) (cwV 1 hts gL_law_X3_done rfl rfl rfl pX3_done ⟨by decide, by decide⟩) hK hP hD hS hA hST ((Jf_r _ (Jf_r _ (Jf_r _ (Jf_l _ (Jf_hd _ _ _ yw_fst)))))).1 ((Jf_r _ (Jf_r _ (Jf_r _ (Jf_l _ (Jf_hd _ _ _ yw_fst)))))).1 0 rfl rfl rfl rfl hl.1 rfl (Nat.le_of_ble_eq_true rfl) dL_law_1022 ⟨(by show _ ≤ 600130; omega), (by show _ ≤ 7301080; omega)⟩ rfl (fun H locs hP hD hS => ?_)
            rw [nI_clamp (n := j) (by omega)]
            refine lv_if_ne (tgt := 1060) hx hb dL_law_1025 (by decide) (fun c_1025 => ?_) (fun c_1025 => ?_)
            · exact absurd (by rw [e1]; exact done_0 G (by omega) (by omega) c_1016) c_1025
            refine lv_aload hx hb dL_law_1028 (lv_at hl 0 rfl) ?_
            refine lv_iconst (v := 0) hx hb dL_law_1030 (by decide) ?_
            refine w_ildM hx hb hK hP (List.mem_append_right _ (List.mem_append_right _ (List.mem_append_left _ (List.mem_of_getElem? (rc_get (by omega)))))) rfl 0 rfl (by decide) (by decide) (v := f (7 + 3 * j)) rfl dL_law_1031 ?_
            refine lv_if_lt (tgt := 1060) hx hb dL_law_1032 (by decide) (fun c_1032 => ?_) (fun c_1032 => ?_)
            · exact absurd c_1032 (bd_n0 (hI.2.1 j (by omega)).1)
            refine lv_aload hx hb dL_law_1035 (lv_at hl 0 rfl) ?_
            refine lv_iconst (v := 0) hx hb dL_law_1037 (by decide) ?_
            refine w_ildM hx hb hK hP (List.mem_append_right _ (List.mem_append_right _ (List.mem_append_left _ (List.mem_of_getElem? (rc_get (by omega)))))) rfl 0 rfl (by decide) (by decide) (v := f (7 + 3 * j)) rfl dL_law_1038 ?_
            refine lv_bipush (v := 30) hx hb dL_law_1039 (by decide) ?_
            refine lv_icmp_gt (tgt := 1060) hx hb dL_law_1041 (by decide) (fun c_1041 => ?_) (fun c_1041 => ?_)
            · exact absurd c_1041 (bd_30 (hI.2.1 j (by omega)).1)
            refine lv_aload hx hb dL_law_1044 (lv_at hl 0 rfl) ?_
            refine lv_iconst (v := 1) hx hb dL_law_1046 (by decide) ?_
            refine w_ildM hx hb hK hP (List.mem_append_right _ (List.mem_append_right _ (List.mem_append_left _ (List.mem_of_getElem? (rc_get (by omega)))))) rfl 1 rfl (by decide) (by decide) (v := f (8 + 3 * j)) rfl dL_law_1047 ?_
            refine lv_if_lt (tgt := 1060) hx hb dL_law_1048 (by decide) (fun c_1048 => ?_) (fun c_1048 => ?_)
            · exact absurd c_1048 (bd_n0 (hI.2.1 j (by omega)).2.1)
            refine lv_aload hx hb dL_law_1051 (lv_at hl 0 rfl) ?_
            refine lv_iconst (v := 1) hx hb dL_law_1053 (by decide) ?_
            refine w_ildM hx hb hK hP (List.mem_append_right _ (List.mem_append_right _ (List.mem_append_left _ (List.mem_of_getElem? (rc_get (by omega)))))) rfl 1 rfl (by decide) (by decide) (v := f (8 + 3 * j)) rfl dL_law_1054 ?_
            refine lv_bipush (v := 20) hx hb dL_law_1055 (by decide) ?_
            refine lv_icmp_le (tgt := 1062) hx hb dL_law_1057 (by decide) (fun c_1057 => ?_) (fun c_1057 => ?_)
            rotate_left
            · exact absurd (bd_20 (hI.2.1 j (by omega)).2.1) c_1057
            refine lv_iinc (v := nI (j + 1)) (lv' := [(23, .int (nI (j + 1))), (24, .ref (r j)), (19, .int sv), (17, .ref qd), (11, .ref qh), (10, .ref qt), (9, .ref qc), (8, .int (nI nt)), (7, .int (nI nc)), (5, .int (nI time)), (4, .ref wh), (3, .ref mo), (2, .ref (S 0)), (1, .ref x), (0, .ref b)]) hx hb dL_law_1062 hl (k := 1) rfl (nI_succ _).symm (by decide) rfl (fun ls hl => ?_)
            refine lv_goto (tgt := 878) hx hb dL_law_1065 (by decide) ?_
            exact W.widen (by omega) (by omega) (ih (j + 1) (by omega) _ _ hP hD hS _ (lv_sub hl [0, 2, 3, 4, 5, 6, 7, 8, 9, 10, 11, 12, 13, 14] rfl))
        ·
          refine lv_aload_n hx hb dL_law_995 rfl (lv_at hl 13 rfl) ?_
          refine lv_iload hx hb dL_law_996 (lv_at hl 1 rfl) ?_
          refine c1_V0 (xe_no (k_done (n := nc) (i := j) (by omega) (by omega))) (As := [.int (nI j)]) (rest := []) (ws' := ([(mo, .inl (cI, 6, .inl mostA)), (wh, .inl (cI, 5, .inl (fun i => nI (wN i)))), (qc, .inl (cL, nc, .inr (.inr (.inr (.inr (fun i => some (r i))))))), (qt, .inl (cL, nt, .inr (.inr (.inr (.inr (fun i => some (r2 i))))))), (qh, .inl (cI, 10, .inl (cntF nt f g))), (qn, .inl (cI, 10, .inl th)), (qd, .inl (cI, nc, .inl dn))] : va_W) ++ (RT cI r2 f nt ++ (RC cI r f nc ++ ((YW cI cC cT x A (B 0) nc nt f1 g ++ CW cI cC cT B nc2 nt2 f2 g2) ++ (SM cI cL S C T nc nt f1 g))))) ⟨hx, hb, hml, hown, hts⟩ (mX3_done l D cI cC cT cL hl0 x (B 0) A nc nt f1 g (nI j) hnc (h + 1) (by omega) h01) (cwV 1 hts gL_law_X3_done rfl rfl rfl pX3_done ⟨by decide, by decide⟩) hK hP hD hS hA hST ((Jf_r _ (Jf_r _ (Jf_r _ (Jf_l _ (Jf_hd _ _ _ yw_fst)))))).1 ((Jf_r _ (Jf_r _ (Jf_r _ (Jf_l _ (Jf_hd _ _ _ yw_fst)))))).1 0 rfl rfl rfl rfl hl.1 rfl (Nat.le_of_ble_eq_true rfl) dL_law_998 ⟨(by show _ ≤ 600130; omega), (by show _ ≤ 7301080; omega)⟩ rfl (fun H locs hP hD hS => ?_)
          rw [nI_clamp (n := j) (by omega)]
          refine lv_aload hx hb dL_law_1001 (lv_at hl 3 rfl) ?_
          refine lv_iload hx hb dL_law_1003 (lv_at hl 1 rfl) ?_
          refine w_ildM hx hb hK hP (List.mem_append_left _ (List.mem_of_getElem? (i := 6) rfl)) rfl j rfl (by omega) (by omega) (v := doneC f g h j) (hdn _ (by omega)) dL_law_1005 ?_
          refine lv_iconst (v := 1) hx hb dL_law_1006 (by decide) ?_
          refine lv_isub hx hb dL_law_1007 ?_
          refine lv_icmp_ne (tgt := 1060) hx hb dL_law_1008 (by decide) (fun c_1008 => ?_) (fun c_1008 => ?_)
          · exact absurd (by rw [e1]; exact done_1 G (by omega) (by omega) c_992) c_1008
          refine lv_aload hx hb dL_law_1011 (lv_at hl 3 rfl) ?_
          refine lv_iload hx hb dL_law_1013 (lv_at hl 1 rfl) ?_
          refine w_ildM hx hb hK hP (List.mem_append_left _ (List.mem_of_getElem? (i := 6) rfl)) rfl j rfl (by omega) (by omega) (v := doneC f g h j) (hdn _ (by omega)) dL_law_1015 ?_
          refine lv_if_ne (tgt := 1028) hx hb dL_law_1016 (by decide) (fun c_1016 => ?_) (fun c_1016 => ?_)
          rotate_left
          · exact absurd (by rw [c_1016]; decide) c_992
          refine lv_aload hx hb dL_law_1028 (lv_at hl 0 rfl) ?_
          refine lv_iconst (v := 0) hx hb dL_law_1030 (by decide) ?_
          refine w_ildM hx hb hK hP (List.mem_append_right _ (List.mem_append_right _ (List.mem_append_left _ (List.mem_of_getElem? (rc_get (by omega)))))) rfl 0 rfl (by decide) (by decide) (v := f (7 + 3 * j)) rfl dL_law_1031 ?_
          refine lv_if_lt (tgt := 1060) hx hb dL_law_1032 (by decide) (fun c_1032 => ?_) (fun c_1032 => ?_)
          · exact absurd c_1032 (bd_n0 (hI.2.1 j (by omega)).1)
          refine lv_aload hx hb dL_law_1035 (lv_at hl 0 rfl) ?_
          refine lv_iconst (v := 0) hx hb dL_law_1037 (by decide) ?_
          refine w_ildM hx hb hK hP (List.mem_append_right _ (List.mem_append_right _ (List.mem_append_left _ (List.mem_of_getElem? (rc_get (by omega)))))) rfl 0 rfl (by decide) (by decide) (v := f (7 + 3 * j)) rfl dL_law_1038 ?_
          refine lv_bipush (v := 30) hx hb dL_law_1039 (by decide) ?_
          refine lv_icmp_gt (tgt := 1060) hx hb dL_law_1041 (by decide) (fun c_1041 => ?_) (fun c_1041 => ?_)
          · exact absurd c_1041 (bd_30 (hI.2.1 j (by omega)).1)
          refine lv_aload hx hb dL_law_1044 (lv_at hl 0 rfl) ?_
          refine lv_iconst (v := 1) hx hb dL_law_1046 (by decide) ?_
          refine w_ildM hx hb hK hP (List.mem_append_right _ (List.mem_append_right _ (List.mem_append_left _ (List.mem_of_getElem? (rc_get (by omega)))))) rfl 1 rfl (by decide) (by decide) (v := f (8 + 3 * j)) rfl dL_law_1047 ?_
          refine lv_if_lt (tgt := 1060) hx hb dL_law_1048 (by decide) (fun c_1048 => ?_) (fun c_1048 => ?_)
          · exact absurd c_1048 (bd_n0 (hI.2.1 j (by omega)).2.1)
          refine lv_aload hx hb dL_law_1051 (lv_at hl 0 rfl) ?_
          refine lv_iconst (v := 1) hx hb dL_law_1053 (by decide) ?_
          refine w_ildM hx hb hK hP (List.mem_append_right _ (List.mem_append_right _ (List.mem_append_left _ (List.mem_of_getElem? (rc_get (by omega)))))) rfl 1 rfl (by decide) (by decide) (v := f (8 + 3 * j)) rfl dL_law_1054 ?_
          refine lv_bipush (v := 20) hx hb dL_law_1055 (by decide) ?_
          refine lv_icmp_le (tgt := 1062) hx hb dL_law_1057 (by decide) (fun c_1057 => ?_) (fun c_1057 => ?_)
          rotate_left
          · exact absurd (bd_20 (hI.2.1 j (by omega)).2.1) c_1057
          refine lv_iinc (v := nI (j + 1)) (lv' := [(23, .int (nI (j + 1))), (24, .ref (r j)), (19, .int sv), (17, .ref qd), (11, .ref qh), (10, .ref qt), (9, .ref qc), (8, .int (nI nt)), (7, .int (nI nc)), (5, .int (nI time)), (4, .ref wh), (3, .ref mo), (2, .ref (S 0)), (1, .ref x), (0, .ref b)]) hx hb dL_law_1062 hl (k := 1) rfl (nI_succ _).symm (by decide) rfl (fun ls hl => ?_)
          refine lv_goto (tgt := 878) hx hb dL_law_1065 (by decide) ?_
          exact W.widen (by omega) (by omega) (ih (j + 1) (by omega) _ _ hP hD hS _ (lv_sub hl [0, 2, 3, 4, 5, 6, 7, 8, 9, 10, 11, 12, 13, 14] rfl))
  exact W.widen (by omega) (by omega) (lp0 nc 0 (by omega) _ _ hP hD hS _ (lv_sub hl [0, 1, 2, 3, 4, 5, 6, 7, 8, 9, 10, 11, 12, 13] rfl))
