set_option maxHeartbeats 4000000 in
set_option maxRecDepth 100000 in
theorem law_end {p : Program} {l : Launch} {e : Env} {s : State} {m : MethodId} {args : Array Value} {below : List Frame} {meth : Method} {c : Code} {Q : State → Prop} {A0 : Nat → Prop} {b L : Nat} {xs : Nat → Int32} {D : va_G} {cI cC cT cL : ClassId} {x mo wh : Nat} {A B : Nat → Nat} {cells slots : Nat} {S C T : Nat → Nat} {nc nt h : Nat} {f g : Nat → Int32} {nc2 nt2 : Nat} {f2 g2 : Nat → Int32} {H : Heap} {locs : List Loc} {ls : Array Slot} (EL : LE p l s m args c A0 b L xs D cI cC cT cL) (hh : h ≤ 300) (G : GS2 nc nt f g h) (kend : ∀ (H : Heap) (locs : List Loc) (ls : Array Slot), va_S A0 s.heap H locs → W p l e room_1 s m args below meth c H locs 600130 7301080 Q (F0 m 1329 ls [.int 1])) (hcl : cells ≤ 21000) (hsl : slots ≤ 160000) (hP : va_P D vwCl (([(mo, .inl (cI, 6, .inl mostA)), (wh, .inl (cI, 5, .inl (fun i => nI (wN i))))] : va_W) ++ ((YW cI cC cT x A (B 0) nc nt f g ++ CW cI cC cT B nc2 nt2 f2 g2) ++ (SM cI cL S C T nc nt f g))) H) (hD : va_D A0 (([(mo, .inl (cI, 6, .inl mostA)), (wh, .inl (cI, 5, .inl (fun i => nI (wN i))))] : va_W) ++ ((YW cI cC cT x A (B 0) nc nt f g ++ CW cI cC cT B nc2 nt2 f2 g2) ++ (SM cI cL S C T nc nt f g)))) (hS : va_S A0 s.heap H locs) (hl : lv_has ls 30 [(5, .int (nI 60)), (4, .ref wh), (3, .ref mo), (2, .ref (S 0)), (1, .ref x), (0, .ref b)]) : W p l e room_1 s m args below meth c H locs cells slots Q (F0 m 1324 ls []) := by
  obtain ⟨hx, hb, hml, hown, hts, hK, hST, hX, hbl, hbA, hA, hl0, hN⟩ := id EL
  have hAA : va_AOA .int s := hST.2.2.2.2.2.2.2.2.2.1
  obtain ⟨⟨hnc, hnt, hI, hg, h0⟩, hz, hxc, hxt⟩ := id G
  have hP : va_P D vwCl (YW cI cC cT x A (B 0) nc nt f g ++ (SM cI cL S C T nc nt f g)) H := P_cut (pm_sam _ _ _ _) hP
  have hD : va_D A0 (YW cI cC cT x A (B 0) nc nt f g ++ (SM cI cL S C T nc nt f g)) := D_cut (pm_sam (([(mo, .inl (cI, 6, .inl mostA)), (wh, .inl (cI, 5, .inl (fun i => nI (wN i))))] : va_W)) _ (CW cI cC cT B nc2 nt2 f2 g2) _) hD
  refine lv_aload_n hx hb dL_law_1324 rfl (lv_at hl 3 rfl) ?_
  refine lv_aload_n hx hb dL_law_1325 rfl (lv_at hl 4 rfl) ?_
  refine c0_V (As := [.ref x]) (rest := []) (ws' := YW cI cC cT x A (B 0) nc nt f g ++ (SM cI cL S C T nc nt f g)) ⟨hx, hb, hml, hown, hts⟩ (mX4_isSame l D cI cC cT cL hl0 x (B 0) A S C T nc nt f g hnc hnt hI h (by omega) h0) (cwV 1 hts gL_law_X4_isSame rfl rfl rfl pX4_isSame ⟨by decide, by decide⟩) hK hP hD hS hA hST (Jf_all _ _ rfl).1 16 rfl rfl rfl rfl hl.1 rfl (Nat.le_of_ble_eq_true rfl) dL_law_1326 ⟨(by show _ ≤ 600130; omega), (by show _ ≤ 7301080; omega)⟩ rfl (fun H locs hP hD hS => ?_)
  exact W.widen (by omega) (by omega) (kend H locs ls hS)

set_option maxHeartbeats 4000000 in
set_option maxRecDepth 100000 in
theorem law_loop {p : Program} {l : Launch} {e : Env} {s : State} {m : MethodId} {args : Array Value} {below : List Frame} {meth : Method} {c : Code} {Q : State → Prop} {A0 : Nat → Prop} {b L : Nat} {xs : Nat → Int32} {D : va_G} {cI cC cT cL : ClassId} {x mo wh : Nat} {A B : Nat → Nat} (EL : LE p l s m args c A0 b L xs D cI cC cT cL) (hL : L ≤ 260) (kend : ∀ (H : Heap) (locs : List Loc) (ls : Array Slot), va_S A0 s.heap H locs → W p l e room_1 s m args below meth c H locs 600130 7301080 Q (F0 m 1329 ls [.int 1])) : ∀ (n time : Nat), time + n = 60 → LK p l e s m args below meth c Q A0 b D cI cC cT cL x mo wh A B time (3000 + 300 * time) (40000 + 2000 * time) := by
  obtain ⟨hx, hb, hml, hown, hts, hK, hST, hX, hbl, hbA, hA, hl0, hN⟩ := id EL
  intro n
  induction n with
  | zero =>
    intro time hn S C T nc nt f g h nc2 nt2 f2 g2 H locs ls G hh hP hD hS hl
    have ht : time = 60 := by omega
    subst ht
    refine lv_iload hx hb dL_law_89 (lv_at hl 0 rfl) ?_
    refine lv_bipush (v := 60) hx hb dL_law_91 (by decide) ?_
    refine lv_icmp_ge (tgt := 1324) hx hb dL_law_93 (by decide) (fun c_93 => ?_) (fun c_93 => ?_)
    · exact law_end EL (by omega) G kend (by omega) (by omega) hP hD hS hl
    · exact absurd (by decide) c_93
  | succ n ih =>
    intro time hn S C T nc nt f g h nc2 nt2 f2 g2 H locs ls G hh hP hD hS hl
    refine lv_iload hx hb dL_law_89 (lv_at hl 0 rfl) ?_
    refine lv_bipush (v := 60) hx hb dL_law_91 (by decide) ?_
    refine lv_icmp_ge (tgt := 1324) hx hb dL_law_93 (by decide) (fun c_93 => ?_) (fun c_93 => ?_)
    · exact absurd c_93 (nI_ge (b := 60) (by omega) (by decide))
    · exact law_1 EL (by omega) hh G (cE := 3000 + 300 * (time + 1)) (sE := 40000 + 2000 * (time + 1)) (by omega) (by omega) (by omega) (by omega) (ih (time + 1) (by omega)) hL hP hD hS hl

set_option maxHeartbeats 4000000 in
set_option maxRecDepth 100000 in
theorem law_begin {p : Program} {l : Launch} {e : Env} {s : State} {m : MethodId} {args : Array Value} {below : List Frame} {meth : Method} {c : Code} {Q : State → Prop} {A0 : Nat → Prop} {b L : Nat} {xs : Nat → Int32} {D : va_G} {cI cC cT cL : ClassId} {ls : Array Slot} (EL : LE p l s m args c A0 b L xs D cI cC cT cL) (hL : L ≤ 260) (kend : ∀ (H : Heap) (locs : List Loc) (ls : Array Slot), va_S A0 s.heap H locs → W p l e room_1 s m args below meth c H locs 600130 7301080 Q (F0 m 1329 ls [.int 1])) (hl : lv_has ls 30 [(0, .ref b)]) : W p l e room_1 s m args below meth c s.heap [] 0 0 Q (F0 m 0 ls []) := by
  obtain ⟨hx, hb, hml, hown, hts, hK, hST, hX, hbl, hbA, hA, hl0, hN⟩ := id EL
  have hAA : va_AOA .int s := hST.2.2.2.2.2.2.2.2.2.1
  have hS : va_S A0 s.heap s.heap [] := va_S.rf
  have hP : va_P D vwCl [] s.heap := fun k q h => by simp at h
  have hD : va_D A0 [] := ⟨fun i j p q h => by simp at h, fun k q h => by simp at h⟩
  refine w_new (ci := 3) (fs := [.null, .null]) hx hb hts iL_law_X3 tyX3_ok hown clL_law_34 itL_law_X3 inL_law_X3 hK hP hD hS hA rfl (fun j hj => by rcases (show j = 0 ∨ j = 1 by omega) with rfl | rfl <;> rfl) (Nat.le_of_ble_eq_true rfl) (Nat.le_of_ble_eq_true rfl) dL_law_0 (fun x H hP hD hS => ?_)
  have hP : va_P D vwCl ([] ++ [(x, .inr (3, [.null, .null]))]) H := hP
  have hD : va_D A0 ([] ++ [(x, .inr (3, [.null, .null]))]) := hD
  refine lv_dup hx hb dL_law_3 rfl ?_
  refine cN_I (As := []) (rest := [.ref x]) (L := []) ⟨hx, hb, hml, hown, hts⟩ (mX3_init l D cI cC cT cL x) (cwI 0 hts gL_law_X3_init rfl rfl rfl (hts _ inL_law_X3) (hts _ lkL_law_85) (hts _ imL_law_X3_init) rfl pX3_init ⟨Nat.le_of_ble_eq_true rfl, Nat.le_of_ble_eq_true rfl⟩) hK hP hD hS hA hST rfl hl.1 rfl (Nat.le_of_ble_eq_true rfl) dL_law_4 ⟨(Nat.le_of_ble_eq_true rfl), (Nat.le_of_ble_eq_true rfl)⟩ (fun w1 hB H locs hP hD hS => ?_)
  obtain ⟨A, B, rfl⟩ := hB
  have hP : va_P D vwCl ((YW cI cC cT x A (B 0) 0 0 (fun _ => 0) (fun _ => 20) ++ CW cI cC cT B 0 0 (fun _ => 0) (fun _ => 20))) H := hP
  have hD : va_D A0 ((YW cI cC cT x A (B 0) 0 0 (fun _ => 0) (fun _ => 20) ++ CW cI cC cT B 0 0 (fun _ => 0) (fun _ => 20))) := hD
  refine W.eq (g2 := F0 m 7 ls [.ref x]) rfl ?_
  refine lv_astore_n (lv' := [(1, .ref x), (0, .ref b)]) hx hb dL_law_7 rfl hl (by decide) rfl (fun ls hl => ?_)
  refine lv_aload_n hx hb dL_law_8 rfl (lv_at hl 0 rfl) ?_
  refine lv_aload_n hx hb dL_law_9 rfl (lv_at hl 1 rfl) ?_
  refine cX_S (As := [.ref x, .ref b]) (rest := []) (L := CW cI cC cT B 0 0 (fun _ => 0) (fun _ => 20)) ⟨hx, hb, hml, hown, hts⟩ (mL_build l D cI cC cT cL hl0 x (B 0) A b L xs hL) (fun _ => px_blindB) (va_cwS 2 hts gL_law_L_build rfl rfl rfl pL_build ⟨by decide, by decide⟩) hK (pm_one _ _) hP hD hS hA hST (eb_at hN hX hbl hbA (D_pm (pm_one _ _) hD) hS hA) rfl hl.1 rfl (Nat.le_of_ble_eq_true rfl) dL_law_10 ⟨(by show _ ≤ 600130; omega), (by show _ ≤ 7301080; omega)⟩ (fun o9 w9 hB H locs hP hD hS => ?_)
  obtain ⟨S, C, T, nc, nt, f, g, h, rfl, G, hh, rfl⟩ := hB
  refine W.eq (g2 := F0 m 13 ls [.ref (S 0)]) rfl ?_
  have hP : va_P D vwCl ((YW cI cC cT x A (B 0) nc nt f g ++ CW cI cC cT B 0 0 (fun _ => 0) (fun _ => 20)) ++ (SM cI cL S C T nc nt f g)) H := (P_pm (pm_bld _ _ _) hP)
  have hD : va_D A0 ((YW cI cC cT x A (B 0) nc nt f g ++ CW cI cC cT B 0 0 (fun _ => 0) (fun _ => 20)) ++ (SM cI cL S C T nc nt f g)) := (D_pm (pm_bld _ _ _) hD)
  refine lv_astore_n (lv' := [(2, .ref (S 0)), (1, .ref x), (0, .ref b)]) hx hb dL_law_13 rfl hl (by decide) rfl (fun ls hl => ?_)
  refine lv_aload_n hx hb dL_law_14 rfl (lv_at hl 0 rfl) ?_
  refine lv_ifnonnull (tgt := 20) hx hb dL_law_15 (by decide) ?_
  refine lv_bipush (v := 6) hx hb dL_law_20 (by decide) ?_
  refine w_newi hx hb (hts _ acL_law_int) hK hP hD hS hA rfl 6 rfl (by omega) (by show _ ≤ 600130; omega) (by show _ ≤ 7301080; omega) dL_law_22 (fun q1 H hP hD hS => ?_)
  have pm : (((YW cI cC cT x A (B 0) nc nt f g ++ CW cI cC cT B 0 0 (fun _ => 0) (fun _ => 20)) ++ (SM cI cL S C T nc nt f g)) ++ ([(q1, .inl (cI, 6, .inl (fun _ => 0)))] : va_W)).Perm (([(q1, .inl (cI, 6, .inl (fun _ => 0)))] : va_W) ++ ((YW cI cC cT x A (B 0) nc nt f g ++ CW cI cC cT B 0 0 (fun _ => 0) (fun _ => 20)) ++ (SM cI cL S C T nc nt f g))) := List.perm_append_comm
  have hP : va_P D vwCl (([(q1, .inl (cI, 6, .inl (fun _ => 0)))] : va_W) ++ ((YW cI cC cT x A (B 0) nc nt f g ++ CW cI cC cT B 0 0 (fun _ => 0) (fun _ => 20)) ++ (SM cI cL S C T nc nt f g))) H := P_pm pm hP
  have hD : va_D A0 (([(q1, .inl (cI, 6, .inl (fun _ => 0)))] : va_W) ++ ((YW cI cC cT x A (B 0) nc nt f g ++ CW cI cC cT B 0 0 (fun _ => 0) (fun _ => 20)) ++ (SM cI cL S C T nc nt f g))) := D_pm pm hD
  refine lv_dup hx hb dL_law_24 rfl ?_
  refine lv_iconst (v := 0) hx hb dL_law_25 (by decide) ?_
  refine lv_iconst (v := 0) hx hb dL_law_26 (by decide) ?_
  refine w_istJ (ws' := ([(q1, .inl (cI, 6, .inl (upd (fun _ => 0) 0 0)))] : va_W) ++ ((YW cI cC cT x A (B 0) nc nt f g ++ CW cI cC cT B 0 0 (fun _ => 0) (fun _ => 20)) ++ (SM cI cL S C T nc nt f g))) hx hb hK hP hD hS 0 (Jf_l _ (Jf_set 0 rfl rfl)) rfl rfl (by decide) (by decide) dL_law_27 (fun H locs hP hD hS => ?_)
  refine lv_dup hx hb dL_law_28 rfl ?_
  refine lv_iconst (v := 1) hx hb dL_law_29 (by decide) ?_
  refine lv_iconst (v := 0) hx hb dL_law_30 (by decide) ?_
  refine w_istJ (ws' := ([(q1, .inl (cI, 6, .inl (upd (upd (fun _ => 0) 0 0) 1 0)))] : va_W) ++ ((YW cI cC cT x A (B 0) nc nt f g ++ CW cI cC cT B 0 0 (fun _ => 0) (fun _ => 20)) ++ (SM cI cL S C T nc nt f g))) hx hb hK hP hD hS 1 (Jf_l _ (Jf_set 0 rfl rfl)) rfl rfl (by decide) (by decide) dL_law_31 (fun H locs hP hD hS => ?_)
  refine lv_dup hx hb dL_law_32 rfl ?_
  refine lv_iconst (v := 2) hx hb dL_law_33 (by decide) ?_
  refine lv_sipush (v := 900) hx hb dL_law_34 (by decide) ?_
  refine w_istJ (ws' := ([(q1, .inl (cI, 6, .inl (upd (upd (upd (fun _ => 0) 0 0) 1 0) 2 900)))] : va_W) ++ ((YW cI cC cT x A (B 0) nc nt f g ++ CW cI cC cT B 0 0 (fun _ => 0) (fun _ => 20)) ++ (SM cI cL S C T nc nt f g))) hx hb hK hP hD hS 2 (Jf_l _ (Jf_set 0 rfl rfl)) rfl rfl (by decide) (by decide) dL_law_37 (fun H locs hP hD hS => ?_)
  refine lv_dup hx hb dL_law_38 rfl ?_
  refine lv_iconst (v := 3) hx hb dL_law_39 (by decide) ?_
  refine lv_sipush (v := 300) hx hb dL_law_40 (by decide) ?_
  refine w_istJ (ws' := ([(q1, .inl (cI, 6, .inl (upd (upd (upd (upd (fun _ => 0) 0 0) 1 0) 2 900) 3 300)))] : va_W) ++ ((YW cI cC cT x A (B 0) nc nt f g ++ CW cI cC cT B 0 0 (fun _ => 0) (fun _ => 20)) ++ (SM cI cL S C T nc nt f g))) hx hb hK hP hD hS 3 (Jf_l _ (Jf_set 0 rfl rfl)) rfl rfl (by decide) (by decide) dL_law_43 (fun H locs hP hD hS => ?_)
  refine lv_dup hx hb dL_law_44 rfl ?_
  refine lv_iconst (v := 4) hx hb dL_law_45 (by decide) ?_
  refine lv_sipush (v := 300) hx hb dL_law_46 (by decide) ?_
  refine w_istJ (ws' := ([(q1, .inl (cI, 6, .inl (upd (upd (upd (upd (upd (fun _ => 0) 0 0) 1 0) 2 900) 3 300) 4 300)))] : va_W) ++ ((YW cI cC cT x A (B 0) nc nt f g ++ CW cI cC cT B 0 0 (fun _ => 0) (fun _ => 20)) ++ (SM cI cL S C T nc nt f g))) hx hb hK hP hD hS 4 (Jf_l _ (Jf_set 0 rfl rfl)) rfl rfl (by decide) (by decide) dL_law_49 (fun H locs hP hD hS => ?_)
  refine lv_dup hx hb dL_law_50 rfl ?_
  refine lv_iconst (v := 5) hx hb dL_law_51 (by decide) ?_
  refine lv_sipush (v := 300) hx hb dL_law_52 (by decide) ?_
  refine w_istJ (ws' := ([(q1, .inl (cI, 6, .inl (upd (upd (upd (upd (upd (upd (fun _ => 0) 0 0) 1 0) 2 900) 3 300) 4 300) 5 300)))] : va_W) ++ ((YW cI cC cT x A (B 0) nc nt f g ++ CW cI cC cT B 0 0 (fun _ => 0) (fun _ => 20)) ++ (SM cI cL S C T nc nt f g))) hx hb hK hP hD hS 5 (Jf_l _ (Jf_set 0 rfl rfl)) rfl rfl (by decide) (by decide) dL_law_55 (fun H locs hP hD hS => ?_)
  refine lv_astore_n (lv' := [(3, .ref q1), (2, .ref (S 0)), (1, .ref x), (0, .ref b)]) hx hb dL_law_56 rfl hl (by decide) rfl (fun ls hl => ?_)
  refine lv_iconst (v := 5) hx hb dL_law_57 (by decide) ?_
  refine w_newi hx hb (hts _ acL_law_int) hK hP hD hS hA rfl 5 rfl (by omega) (by show _ ≤ 600130; omega) (by show _ ≤ 7301080; omega) dL_law_58 (fun q2 H hP hD hS => ?_)
  have pm : ((([(q1, .inl (cI, 6, .inl (upd (upd (upd (upd (upd (upd (fun _ => 0) 0 0) 1 0) 2 900) 3 300) 4 300) 5 300)))] : va_W) ++ ((YW cI cC cT x A (B 0) nc nt f g ++ CW cI cC cT B 0 0 (fun _ => 0) (fun _ => 20)) ++ (SM cI cL S C T nc nt f g))) ++ ([(q2, .inl (cI, 5, .inl (fun _ => 0)))] : va_W)).Perm (([(q1, .inl (cI, 6, .inl (upd (upd (upd (upd (upd (upd (fun _ => 0) 0 0) 1 0) 2 900) 3 300) 4 300) 5 300))), (q2, .inl (cI, 5, .inl (fun _ => 0)))] : va_W) ++ ((YW cI cC cT x A (B 0) nc nt f g ++ CW cI cC cT B 0 0 (fun _ => 0) (fun _ => 20)) ++ (SM cI cL S C T nc nt f g))) := pm_new (([(q1, .inl (cI, 6, .inl (upd (upd (upd (upd (upd (upd (fun _ => 0) 0 0) 1 0) 2 900) 3 300) 4 300) 5 300)))] : va_W)) _ _
  have hP : va_P D vwCl (([(q1, .inl (cI, 6, .inl (upd (upd (upd (upd (upd (upd (fun _ => 0) 0 0) 1 0) 2 900) 3 300) 4 300) 5 300))), (q2, .inl (cI, 5, .inl (fun _ => 0)))] : va_W) ++ ((YW cI cC cT x A (B 0) nc nt f g ++ CW cI cC cT B 0 0 (fun _ => 0) (fun _ => 20)) ++ (SM cI cL S C T nc nt f g))) H := P_pm pm hP
  have hD : va_D A0 (([(q1, .inl (cI, 6, .inl (upd (upd (upd (upd (upd (upd (fun _ => 0) 0 0) 1 0) 2 900) 3 300) 4 300) 5 300))), (q2, .inl (cI, 5, .inl (fun _ => 0)))] : va_W) ++ ((YW cI cC cT x A (B 0) nc nt f g ++ CW cI cC cT B 0 0 (fun _ => 0) (fun _ => 20)) ++ (SM cI cL S C T nc nt f g))) := D_pm pm hD
  refine lv_dup hx hb dL_law_60 rfl ?_
  refine lv_iconst (v := 0) hx hb dL_law_61 (by decide) ?_
  refine lv_iconst (v := 2) hx hb dL_law_62 (by decide) ?_
  refine w_istJ (ws' := ([(q1, .inl (cI, 6, .inl (upd (upd (upd (upd (upd (upd (fun _ => 0) 0 0) 1 0) 2 900) 3 300) 4 300) 5 300))), (q2, .inl (cI, 5, .inl (upd (fun _ => 0) 0 2)))] : va_W) ++ ((YW cI cC cT x A (B 0) nc nt f g ++ CW cI cC cT B 0 0 (fun _ => 0) (fun _ => 20)) ++ (SM cI cL S C T nc nt f g))) hx hb hK hP hD hS 0 (Jf_l _ (Jf_set 1 rfl rfl)) rfl rfl (by decide) (by decide) dL_law_63 (fun H locs hP hD hS => ?_)
  refine lv_dup hx hb dL_law_64 rfl ?_
  refine lv_iconst (v := 1) hx hb dL_law_65 (by decide) ?_
  refine lv_bipush (v := 6) hx hb dL_law_66 (by decide) ?_
  refine w_istJ (ws' := ([(q1, .inl (cI, 6, .inl (upd (upd (upd (upd (upd (upd (fun _ => 0) 0 0) 1 0) 2 900) 3 300) 4 300) 5 300))), (q2, .inl (cI, 5, .inl (upd (upd (fun _ => 0) 0 2) 1 6)))] : va_W) ++ ((YW cI cC cT x A (B 0) nc nt f g ++ CW cI cC cT B 0 0 (fun _ => 0) (fun _ => 20)) ++ (SM cI cL S C T nc nt f g))) hx hb hK hP hD hS 1 (Jf_l _ (Jf_set 1 rfl rfl)) rfl rfl (by decide) (by decide) dL_law_68 (fun H locs hP hD hS => ?_)
  refine lv_dup hx hb dL_law_69 rfl ?_
  refine lv_iconst (v := 2) hx hb dL_law_70 (by decide) ?_
  refine lv_bipush (v := 7) hx hb dL_law_71 (by decide) ?_
  refine w_istJ (ws' := ([(q1, .inl (cI, 6, .inl (upd (upd (upd (upd (upd (upd (fun _ => 0) 0 0) 1 0) 2 900) 3 300) 4 300) 5 300))), (q2, .inl (cI, 5, .inl (upd (upd (upd (fun _ => 0) 0 2) 1 6) 2 7)))] : va_W) ++ ((YW cI cC cT x A (B 0) nc nt f g ++ CW cI cC cT B 0 0 (fun _ => 0) (fun _ => 20)) ++ (SM cI cL S C T nc nt f g))) hx hb hK hP hD hS 2 (Jf_l _ (Jf_set 1 rfl rfl)) rfl rfl (by decide) (by decide) dL_law_73 (fun H locs hP hD hS => ?_)
  refine lv_dup hx hb dL_law_74 rfl ?_
  refine lv_iconst (v := 3) hx hb dL_law_75 (by decide) ?_
  refine lv_bipush (v := 8) hx hb dL_law_76 (by decide) ?_
  refine w_istJ (ws' := ([(q1, .inl (cI, 6, .inl (upd (upd (upd (upd (upd (upd (fun _ => 0) 0 0) 1 0) 2 900) 3 300) 4 300) 5 300))), (q2, .inl (cI, 5, .inl (upd (upd (upd (upd (fun _ => 0) 0 2) 1 6) 2 7) 3 8)))] : va_W) ++ ((YW cI cC cT x A (B 0) nc nt f g ++ CW cI cC cT B 0 0 (fun _ => 0) (fun _ => 20)) ++ (SM cI cL S C T nc nt f g))) hx hb hK hP hD hS 3 (Jf_l _ (Jf_set 1 rfl rfl)) rfl rfl (by decide) (by decide) dL_law_78 (fun H locs hP hD hS => ?_)
  refine lv_dup hx hb dL_law_79 rfl ?_
  refine lv_iconst (v := 4) hx hb dL_law_80 (by decide) ?_
  refine lv_bipush (v := 9) hx hb dL_law_81 (by decide) ?_
  refine w_istJ (ws' := ([(q1, .inl (cI, 6, .inl (upd (upd (upd (upd (upd (upd (fun _ => 0) 0 0) 1 0) 2 900) 3 300) 4 300) 5 300))), (q2, .inl (cI, 5, .inl (upd (upd (upd (upd (upd (fun _ => 0) 0 2) 1 6) 2 7) 3 8) 4 9)))] : va_W) ++ ((YW cI cC cT x A (B 0) nc nt f g ++ CW cI cC cT B 0 0 (fun _ => 0) (fun _ => 20)) ++ (SM cI cL S C T nc nt f g))) hx hb hK hP hD hS 4 (Jf_l _ (Jf_set 1 rfl rfl)) rfl rfl (by decide) (by decide) dL_law_83 (fun H locs hP hD hS => ?_)
  refine lv_astore (lv' := [(4, .ref q2), (3, .ref q1), (2, .ref (S 0)), (1, .ref x), (0, .ref b)]) hx hb dL_law_84 hl (by decide) rfl (fun ls hl => ?_)
  refine lv_iconst (v := 0) hx hb dL_law_86 (by decide) ?_
  refine lv_istore (lv' := [(5, .int 0), (4, .ref q2), (3, .ref q1), (2, .ref (S 0)), (1, .ref x), (0, .ref b)]) hx hb dL_law_87 hl (by decide) rfl (fun ls hl => ?_)
  have hP := P_arr hP 0 rfl (f' := mostA) (fun j hj => by rcases (show j = 0 ∨ j = 1 ∨ j = 2 ∨ j = 3 ∨ j = 4 ∨ j = 5 by omega) with rfl | rfl | rfl | rfl | rfl | rfl <;> rfl)
  have hP := P_arr hP 1 rfl (f' := fun i => nI (wN i)) (fun j hj => by rcases (show j = 0 ∨ j = 1 ∨ j = 2 ∨ j = 3 ∨ j = 4 by omega) with rfl | rfl | rfl | rfl | rfl <;> rfl)
  have hP : va_P D vwCl (([(q1, .inl (cI, 6, .inl mostA)), (q2, .inl (cI, 5, .inl (fun i => nI (wN i))))] : va_W) ++ ((YW cI cC cT x A (B 0) nc nt f g ++ CW cI cC cT B 0 0 (fun _ => 0) (fun _ => 20)) ++ (SM cI cL S C T nc nt f g))) H := hP
  have hD : va_D A0 (([(q1, .inl (cI, 6, .inl mostA)), (q2, .inl (cI, 5, .inl (fun i => nI (wN i))))] : va_W) ++ ((YW cI cC cT x A (B 0) nc nt f g ++ CW cI cC cT B 0 0 (fun _ => 0) (fun _ => 20)) ++ (SM cI cL S C T nc nt f g))) := D_fst (by rfl) hD
  exact W.widen (by omega) (by omega) (law_loop EL hL kend 60 0 rfl _ _ _ _ _ _ _ _ _ _ _ _ _ _ _ G (by omega) hP hD hS (lv_sub hl [0, 1, 2, 3, 4, 5] rfl))
