set_option maxHeartbeats 4000000 in
set_option maxRecDepth 100000 in
theorem law_1 {p : Program} {l : Launch} {e : Env} {s : State} {m : MethodId} {args : Array Value} {below : List Frame} {meth : Method} {c : Code} {Q : State → Prop} {A0 : Nat → Prop} {b L : Nat} {xs : Nat → Int32} {D : va_G} {cI cC cT cL : ClassId} {x mo wh : Nat} {A B : Nat → Nat} {time cE sE cells slots : Nat} {S C T : Nat → Nat} {nc nt h : Nat} {f g : Nat → Int32} {nc2 nt2 : Nat} {f2 g2 : Nat → Int32} {H : Heap} {locs : List Loc} {ls : Array Slot} (EL : LE p l s m args c A0 b L xs D cI cC cT cL) (ht : time < 60) (hh : h ≤ 60 + time) (G : GS2 nc nt f g h) (hcE : cE ≤ 600130) (hsE : sE ≤ 7301080) (hcl : cells + 222 ≤ cE) (hsl : slots + 1384 ≤ sE) (K : LK p l e s m args below meth c Q A0 b D cI cC cT cL x mo wh A B (time + 1) cE sE) (hL : L ≤ 260) (hP : va_P D vwCl (([(mo, .inl (cI, 6, .inl mostA)), (wh, .inl (cI, 5, .inl (fun i => nI (wN i))))] : va_W) ++ ((YW cI cC cT x A (B 0) nc nt f g ++ CW cI cC cT B nc2 nt2 f2 g2) ++ (SM cI cL S C T nc nt f g))) H) (hD : va_D A0 (([(mo, .inl (cI, 6, .inl mostA)), (wh, .inl (cI, 5, .inl (fun i => nI (wN i))))] : va_W) ++ ((YW cI cC cT x A (B 0) nc nt f g ++ CW cI cC cT B nc2 nt2 f2 g2) ++ (SM cI cL S C T nc nt f g)))) (hS : va_S A0 s.heap H locs) (hl : lv_has ls 30 [(5, .int (nI time)), (4, .ref wh), (3, .ref mo), (2, .ref (S 0)), (1, .ref x), (0, .ref b)]) : W p l e room_1 s m args below meth c H locs cells slots Q (F0 m 96 ls []) := by
  obtain ⟨hx, hb, hml, hown, hts, hK, hST, hX, hbl, hbA, hA, hl0, hN⟩ := id EL
  have hAA : va_AOA .int s := hST.2.2.2.2.2.2.2.2.2.1
  obtain ⟨⟨hnc, hnt, hI, hg, h0⟩, hz, hxc, hxt⟩ := id G
  refine lv_aload_n hx hb dL_law_96 rfl (lv_at hl 5 rfl) ?_
  refine lv_iload hx hb dL_law_97 (lv_at hl 0 rfl) ?_
  refine lv_bipush (v := 16) hx hb dL_law_99 (by decide) ?_
  refine lv_irem hx hb dL_law_101 (by decide) ?_
  rw [shr_p time (by omega)]
  refine cX_S (As := [.ref b, .int (nI (time % 16))]) (rest := []) (L := ([(mo, .inl (cI, 6, .inl mostA)), (wh, .inl (cI, 5, .inl (fun i => nI (wN i))))] : va_W) ++ ((YW cI cC cT x A (B 0) nc nt f g ++ CW cI cC cT B nc2 nt2 f2 g2) ++ (SM cI cL S C T nc nt f g))) ⟨hx, hb, hml, hown, hts⟩ (mL_cell l D cI cC cT cL b L xs (time % 16) (by omega) (by omega)) (fun _ => px_blindS) (va_cwS 2 hts gL_law_L_cell rfl rfl rfl pL_cell ⟨by decide, by decide⟩) hK pm_nil hP hD hS hA hST (es_at hX hbl hbA (D_pm pm_nil hD) hS hA) rfl hl.1 rfl (Nat.le_of_ble_eq_true rfl) dL_law_102 ⟨(by show _ ≤ 600130; omega), (by show _ ≤ 7301080; omega)⟩ (fun o9 w9 hB H locs hP hD hS => ?_)
  obtain ⟨v9, rfl, rfl⟩ := hB
  refine W.eq (g2 := F0 m 105 ls [.int v9]) rfl ?_
  have hP : va_P D vwCl (([(mo, .inl (cI, 6, .inl mostA)), (wh, .inl (cI, 5, .inl (fun i => nI (wN i))))] : va_W) ++ ((YW cI cC cT x A (B 0) nc nt f g ++ CW cI cC cT B nc2 nt2 f2 g2) ++ (SM cI cL S C T nc nt f g))) H := (P_pm pm_nil.symm hP)
  have hD : va_D A0 (([(mo, .inl (cI, 6, .inl mostA)), (wh, .inl (cI, 5, .inl (fun i => nI (wN i))))] : va_W) ++ ((YW cI cC cT x A (B 0) nc nt f g ++ CW cI cC cT B nc2 nt2 f2 g2) ++ (SM cI cL S C T nc nt f g))) := (D_pm pm_nil.symm hD)
  refine lv_iload hx hb dL_law_105 (lv_at hl 0 rfl) ?_
  refine lv_bipush (v := 16) hx hb dL_law_107 (by decide) ?_
  refine lv_idiv hx hb dL_law_109 (by decide) ?_
  refine lv_iconst (v := 5) hx hb dL_law_110 (by decide) ?_
  refine lv_imul hx hb dL_law_111 ?_
  refine lv_ishr hx hb dL_law_112 ?_
  refine lv_bipush (v := 47) hx hb dL_law_113 (by decide) ?_
  refine lv_iload hx hb dL_law_115 (lv_at hl 0 rfl) ?_
  refine lv_imul hx hb dL_law_117 ?_
  refine lv_iadd hx hb dL_law_118 ?_
  generalize ((v9 >>> ((((nI time) / 16) * 5) &&& 31)) + (47 * (nI time))) = x8
  refine lv_istore (lv' := [(6, .int x8), (5, .int (nI time)), (4, .ref wh), (3, .ref mo), (2, .ref (S 0)), (1, .ref x), (0, .ref b)]) hx hb dL_law_119 hl (by decide) rfl (fun ls hl => ?_)
  refine lv_iload hx hb dL_law_121 (lv_at hl 0 rfl) ?_
  refine lv_iconst (v := 3) hx hb dL_law_123 (by decide) ?_
  refine c0_S (As := [.int x8, .int 3]) (rest := []) (ws' := ([(mo, .inl (cI, 6, .inl mostA)), (wh, .inl (cI, 5, .inl (fun i => nI (wN i))))] : va_W) ++ ((YW cI cC cT x A (B 0) nc nt f g ++ CW cI cC cT B nc2 nt2 f2 g2) ++ (SM cI cL S C T nc nt f g))) ⟨hx, hb, hml, hown, hts⟩ (mL_below l D cI cC cT cL x8 3 (by decide)) (va_cwS 2 hts gL_law_L_below rfl rfl rfl pL_below ⟨by decide, by decide⟩) hK hP hD hS hA hST (Jf_nil _).1 rfl hl.1 rfl (Nat.le_of_ble_eq_true rfl) dL_law_124 ⟨(by show _ ≤ 600130; omega), (by show _ ≤ 7301080; omega)⟩ rfl (fun H locs hP hD hS => ?_)
  obtain ⟨r, hr, er⟩ := bel_n x8 3 (by decide) (by decide)
  rw [show (bel x8 3 : Int32) = nI r from er]
  refine lv_if_le (tgt := 144) hx hb dL_law_127 (by decide) (fun c_127 => ?_) (fun c_127 => ?_)
  ·
    exact W.widen (by omega) (by omega) (law_2 EL ht hh G hcE hsE (cells := cells + 20) (slots := slots + 200) (by omega) (by omega) K hP hD hS (lv_sub hl [1, 2, 3, 4, 5, 6] rfl))
  ·
    refine lv_aload_n hx hb dL_law_130 rfl (lv_at hl 5 rfl) ?_
    refine lv_aload_n hx hb dL_law_131 rfl (lv_at hl 4 rfl) ?_
    refine lv_iload hx hb dL_law_132 (lv_at hl 0 rfl) ?_
    refine lv_iconst (v := 3) hx hb dL_law_134 (by decide) ?_
    refine lv_idiv hx hb dL_law_135 (by decide) ?_
    refine cX_SW (As := [.ref x, .ref (S 0), .int (x8 / 3)]) (rest := []) (L := ([(mo, .inl (cI, 6, .inl mostA)), (wh, .inl (cI, 5, .inl (fun i => nI (wN i))))] : va_W) ++ CW cI cC cT B nc2 nt2 f2 g2) ⟨hx, hb, hml, hown, hts⟩ (mL_act l D cI cC cT cL hl0 x (B 0) A S C T nc nt f g h G (x8 / 3)) (fun _ => px_blind0) (vx_cwSW 3 hts gL_law_L_act rfl rfl rfl pL_act ⟨by decide, by decide⟩) hK (pm_act _ _ _ _) hP hD hS hA hST (fun _ _ _ => trivial) rfl hl.1 rfl (Nat.le_of_ble_eq_true rfl) dL_law_136 ⟨(by show _ ≤ 600130; omega), (by show _ ≤ 7301080; omega)⟩ (fun o9 w9 hB H locs hP hD hS => ?_)
    obtain ⟨rfl, S11, C11, T11, nc11, nt11, f11, g11, hS11, G11, rfl⟩ := hB
    rw [← hS11] at hl
    refine W.eq (g2 := F0 m 139 ls [.int 1]) rfl ?_
    have hP : va_P D vwCl (([(mo, .inl (cI, 6, .inl mostA)), (wh, .inl (cI, 5, .inl (fun i => nI (wN i))))] : va_W) ++ ((YW cI cC cT x A (B 0) nc11 nt11 f11 g11 ++ CW cI cC cT B nc2 nt2 f2 g2) ++ (SM cI cL S11 C11 T11 nc11 nt11 f11 g11))) H := (P_pm (pm_act _ _ _ _).symm hP)
    have hD : va_D A0 (([(mo, .inl (cI, 6, .inl mostA)), (wh, .inl (cI, 5, .inl (fun i => nI (wN i))))] : va_W) ++ ((YW cI cC cT x A (B 0) nc11 nt11 f11 g11 ++ CW cI cC cT B nc2 nt2 f2 g2) ++ (SM cI cL S11 C11 T11 nc11 nt11 f11 g11))) := (D_pm (pm_act _ _ _ _).symm hD)
    obtain ⟨⟨hnc11, hnt11, hI11, hg11, h011⟩, hz11, hxc11, hxt11⟩ := id G11
    refine lv_if_ne (tgt := 144) hx hb dL_law_139 (by decide) (fun c_139 => ?_) (fun c_139 => ?_)
    rotate_left
    · exact absurd c_139 (by decide)
    exact W.widen (by omega) (by omega) (law_2 EL ht hh G11 hcE hsE (cells := cells + 20) (slots := slots + 200) (by omega) (by omega) K hP hD hS (lv_sub hl [1, 2, 3, 4, 5, 6] rfl))
