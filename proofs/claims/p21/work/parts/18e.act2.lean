set_option maxHeartbeats 4000000 in
set_option maxRecDepth 100000 in
theorem act_sw {p : Program} {l : Launch} {e : Env} {s : State} {m : MethodId} {args : Array Value} {below : List Frame} {meth : Method} {c : Code} {A0 : Nat → Prop} {D : va_G} {cI cC cT cL : ClassId} {x b0 : Nat} {A S C T : Nat → Nat} {nc nt h : Nat} {f g : Nat → Int32} {u cv tv : Int32} {H : Heap} {locs : List Loc} {ls : Array Slot} (EA : AE p l s m meth c args A0 D cI cC cT cL) (G : GS2 nc nt f g h) (hcv : (nc = 0 ∧ cv = -1) ∨ ∃ i, i < nc ∧ cv = nI i) (htv : (nt = 0 ∧ tv = -1) ∨ ∃ i, i < nt ∧ tv = nI i) (hP : va_P D vwCl (YW cI cC cT x A b0 nc nt f g ++ (SM cI cL S C T nc nt f g)) H) (hD : va_D A0 (YW cI cC cT x A b0 nc nt f g ++ (SM cI cL S C T nc nt f g))) (hS : va_S A0 s.heap H locs) (hl : lv_has ls 10 [(4, .int tv), (3, .int cv), (2, .int u), (1, .ref (S 0)), (0, .ref x)]) : W p l e ({ frames := 8, cells := 20, slots := 200, locals := 150 } : Room) s m args below meth c H locs 0 0 (QX below D (actB cI cC cT cL x A b0 S h) A0 args s 20 200) (F0 m 49 ls []) := by
  obtain ⟨hx, hb, hml, hr, hown, hts, hlocks, hK, hA, hST, htab, hl0⟩ := id EA
  obtain ⟨⟨hnc, hnt, hI, hg, h0⟩, hz, hxc, hxt⟩ := id G
  have hAA : va_AOA .int s := hST.2.2.2.2.2.2.2.2.2.1
  refine lv_iload_n hx hb dL_act_49 rfl (lv_at hl 2 rfl) ?_
  refine lv_bipush (v := 12) hx hb dL_act_50 (by decide) ?_
  refine c0_S (As := [.int u, .int 12]) (rest := []) (ws' := YW cI cC cT x A b0 nc nt f g ++ (SM cI cL S C T nc nt f g)) ⟨hx, hb, hml, hown, hts⟩ (mL_below l D cI cC cT cL u 12 (by decide)) (va_cwS 2 hts gL_act_L_below rfl rfl rfl pL_below ⟨Nat.le_of_ble_eq_true rfl, Nat.le_of_ble_eq_true rfl⟩) hK hP hD hS hA hST (Jf_nil _).1 rfl hl.1 rfl (Nat.le_of_ble_eq_true rfl) dL_act_52 ⟨Nat.le_of_ble_eq_true rfl, Nat.le_of_ble_eq_true rfl⟩ rfl (fun H locs hP hD hS => ?_)
  obtain ⟨q9, hq9, eq9⟩ := bel_n u 12 (by decide) (by decide)
  rw [show (bel u 12 : Int32) = nI q9 from eq9]
  rcases (show q9 = 0 ∨ q9 = 1 ∨ q9 = 2 ∨ q9 = 3 ∨ q9 = 4 ∨ q9 = 5 ∨ q9 = 6 ∨ q9 = 7 ∨ q9 = 8 ∨ q9 = 9 ∨ q9 = 10 ∨ q9 = 11 by omega) with rfl | rfl | rfl | rfl | rfl | rfl | rfl | rfl | rfl | rfl | rfl | rfl
  · refine lv_tableIn (off := 53) (tgt := 108) hx hb dL_act_55 (by decide) (by decide) (by decide) (by decide) ?_
    exact act_bring EA G hcv htv hP hD hS (lv_sub hl [0, 1, 2, 3, 4] rfl)
  · refine lv_tableIn (off := 53) (tgt := 108) hx hb dL_act_55 (by decide) (by decide) (by decide) (by decide) ?_
    exact act_bring EA G hcv htv hP hD hS (lv_sub hl [0, 1, 2, 3, 4] rfl)
  · refine lv_tableIn (off := 149) (tgt := 204) hx hb dL_act_55 (by decide) (by decide) (by decide) (by decide) ?_
    exact act_heat EA G hcv htv hP hD hS (lv_sub hl [0, 1, 2, 3, 4] rfl)
  · refine lv_tableIn (off := 207) (tgt := 262) hx hb dL_act_55 (by decide) (by decide) (by decide) (by decide) ?_
    exact act_churn EA G hcv htv hP hD hS (lv_sub hl [0, 1, 2, 3, 4] rfl)
  · refine lv_tableIn (off := 249) (tgt := 304) hx hb dL_act_55 (by decide) (by decide) (by decide) (by decide) ?_
    exact act_tub EA G hcv htv hP hD hS (lv_sub hl [0, 1, 2, 3, 4] rfl)
  · refine lv_tableIn (off := 292) (tgt := 347) hx hb dL_act_55 (by decide) (by decide) (by decide) (by decide) ?_
    exact act_pack EA G hcv htv hP hD hS (lv_sub hl [0, 1, 2, 3, 4] rfl)
  · refine lv_tableIn (off := 292) (tgt := 347) hx hb dL_act_55 (by decide) (by decide) (by decide) (by decide) ?_
    exact act_pack EA G hcv htv hP hD hS (lv_sub hl [0, 1, 2, 3, 4] rfl)
  · refine lv_tableIn (off := 292) (tgt := 347) hx hb dL_act_55 (by decide) (by decide) (by decide) (by decide) ?_
    exact act_pack EA G hcv htv hP hD hS (lv_sub hl [0, 1, 2, 3, 4] rfl)
  · refine lv_tableIn (off := 500) (tgt := 555) hx hb dL_act_55 (by decide) (by decide) (by decide) (by decide) ?_
    exact act_pour EA G hcv htv hP hD hS (lv_sub hl [0, 1, 2, 3, 4] rfl)
  · refine lv_tableIn (off := 500) (tgt := 555) hx hb dL_act_55 (by decide) (by decide) (by decide) (by decide) ?_
    exact act_pour EA G hcv htv hP hD hS (lv_sub hl [0, 1, 2, 3, 4] rfl)
  · refine lv_tableOut (tgt := 699) hx hb dL_act_55 (by decide) (by decide) ?_
    exact act_scoop EA G hcv htv hP hD hS (lv_sub hl [0, 1, 2, 3, 4] rfl)
  · refine lv_tableOut (tgt := 699) hx hb dL_act_55 (by decide) (by decide) ?_
    exact act_scoop EA G hcv htv hP hD hS (lv_sub hl [0, 1, 2, 3, 4] rfl)

theorem nI_z {n : Nat} (hn : n < 2 ^ 31) (h : nI n = 0) : n = 0 := by
  have e : (0 : Int32) = nI 0 := rfl
  rw [e, nI_eq hn (by decide)] at h
  exact h
theorem nz {n : Nat} (h : ¬ nI n = 0) : 0 < n := Nat.pos_of_ne_zero (fun q => h (by rw [q]; rfl))

set_option maxHeartbeats 4000000 in
set_option maxRecDepth 100000 in
theorem mL_act (l : Launch) (D : va_G) (cI cC cT cL : ClassId) (hl0 : l.stackTraces = false) (x b0 : Nat) (A S C T : Nat → Nat) (nc nt : Nat) (f g : Nat → Int32) (h : Nat) (G : GS2 nc nt f g h) (u : Int32) : MX l yL_act wsL_act ({ frames := 8, cells := 20, slots := 200, locals := 150 } : Room) E0 D (TY cI cC cT cL) [.ref x, .ref (S 0), .int u] (YW cI cC cT x A b0 nc nt f g ++ (SM cI cL S C T nc nt f g)) (actB cI cC cT cL x A b0 S h) 20 200 := by
  refine MX_ofH (hh := [(508, 519, 522, 59), (658, 667, 670, 59), (814, 823, 826, 59)]) (cc := cL_act) (maxL := 10) (ret := (some .boolean)) (by decide +kernel) rfl (Nat.le_of_ble_eq_true rfl) ?_
  intro p e s m args below meth c A0 B hE htab ls hl
  obtain ⟨hx, hb, hml, hr, hown, hts, hlocks, hK, hP, hD, hA, hST, hnm⟩ := B
  have hown : s.vm.findClass RL = some m.cls := hown
  have hS : va_S A0 s.heap s.heap [] := va_S.rf
  have hl : lv_has ls 10 [(0, .ref x), (1, .ref (S 0)), (2, .int u)] := hl
  have hAA : va_AOA .int s := hST.2.2.2.2.2.2.2.2.2.1
  have EA : AE p l s m meth c args A0 D cI cC cT cL := ⟨hx, hb, hml, hr, hown, hts, hlocks, hK, hA, hST, htab, hl0⟩
  obtain ⟨⟨hnc, hnt, hI, hg, h0⟩, hz, hxc, hxt⟩ := id G
  refine lv_aload_n hx hb dL_act_0 rfl (lv_at hl 1 rfl) ?_
  refine w_getM hx hb hts iL_act_X4 hown hK hP (List.mem_append_right _ (sm_b 0 rfl)) rfl 5 (by decide) fL_act_9 rfl rfl (v := .ref (S 3)) dL_act_1 ?_
  refine w_alenA hx hb hK hP (List.mem_append_right _ (sm_b 3 rfl)) rfl dL_act_4 ?_
  refine lv_if_ne (tgt := 12) hx hb dL_act_5 (by decide) (fun c_5 => ?_) (fun c_5 => ?_)
  ·
    refine lv_iload_n hx hb dL_act_12 rfl (lv_at hl 2 rfl) ?_
    refine lv_iconst (v := 3) hx hb dL_act_13 (by decide) ?_
    refine lv_ishr hx hb dL_act_14 ?_
    refine lv_aload_n hx hb dL_act_15 rfl (lv_at hl 1 rfl) ?_
    refine w_getM hx hb hts iL_act_X4 hown hK hP (List.mem_append_right _ (sm_b 0 rfl)) rfl 5 (by decide) fL_act_9 rfl rfl (v := .ref (S 3)) dL_act_16 ?_
    refine w_alenA hx hb hK hP (List.mem_append_right _ (sm_b 3 rfl)) rfl dL_act_19 ?_
    refine c0_S (As := [.int (u >>> (3 &&& 31)), .int (nI nc)]) (rest := []) (ws' := YW cI cC cT x A b0 nc nt f g ++ (SM cI cL S C T nc nt f g)) ⟨hx, hb, hml, hown, hts⟩ (mL_below l D cI cC cT cL (u >>> (3 &&& 31)) (nI nc) c_5) (va_cwS 2 hts gL_act_L_below rfl rfl rfl pL_below ⟨Nat.le_of_ble_eq_true rfl, Nat.le_of_ble_eq_true rfl⟩) hK hP hD hS hA hST (Jf_nil _).1 rfl hl.1 rfl (Nat.le_of_ble_eq_true rfl) dL_act_20 ⟨Nat.le_of_ble_eq_true rfl, Nat.le_of_ble_eq_true rfl⟩ rfl (fun H locs hP hD hS => ?_)
    obtain ⟨i9, hi9, ei9⟩ := bel_n (u >>> (3 &&& 31)) nc (nz c_5) (by omega)
    rw [show (bel (u >>> (3 &&& 31)) (nI nc) : Int32) = nI i9 from ei9]
    refine lv_istore_n (lv' := [(3, .int (nI i9)), (0, .ref x), (1, .ref (S 0)), (2, .int u)]) hx hb dL_act_23 rfl hl (by decide) rfl (fun ls hl => ?_)
    refine lv_aload_n hx hb dL_act_24 rfl (lv_at hl 2 rfl) ?_
    refine w_getM hx hb hts iL_act_X4 hown hK hP (List.mem_append_right _ (sm_b 0 rfl)) rfl 6 (by decide) fL_act_21 rfl rfl (v := .ref (S 4)) dL_act_25 ?_
    refine w_alenA hx hb hK hP (List.mem_append_right _ (sm_b 4 rfl)) rfl dL_act_28 ?_
    refine lv_if_ne (tgt := 36) hx hb dL_act_29 (by decide) (fun c_29 => ?_) (fun c_29 => ?_)
    ·
      refine lv_iload_n hx hb dL_act_36 rfl (lv_at hl 3 rfl) ?_
      refine lv_iconst (v := 5) hx hb dL_act_37 (by decide) ?_
      refine lv_ishr hx hb dL_act_38 ?_
      refine lv_aload_n hx hb dL_act_39 rfl (lv_at hl 2 rfl) ?_
      refine w_getM hx hb hts iL_act_X4 hown hK hP (List.mem_append_right _ (sm_b 0 rfl)) rfl 6 (by decide) fL_act_21 rfl rfl (v := .ref (S 4)) dL_act_40 ?_
      refine w_alenA hx hb hK hP (List.mem_append_right _ (sm_b 4 rfl)) rfl dL_act_43 ?_
      refine c0_S (As := [.int (u >>> (5 &&& 31)), .int (nI nt)]) (rest := []) (ws' := YW cI cC cT x A b0 nc nt f g ++ (SM cI cL S C T nc nt f g)) ⟨hx, hb, hml, hown, hts⟩ (mL_below l D cI cC cT cL (u >>> (5 &&& 31)) (nI nt) c_29) (va_cwS 2 hts gL_act_L_below rfl rfl rfl pL_below ⟨Nat.le_of_ble_eq_true rfl, Nat.le_of_ble_eq_true rfl⟩) hK hP hD hS hA hST (Jf_nil _).1 rfl hl.1 rfl (Nat.le_of_ble_eq_true rfl) dL_act_44 ⟨Nat.le_of_ble_eq_true rfl, Nat.le_of_ble_eq_true rfl⟩ rfl (fun H locs hP hD hS => ?_)
      obtain ⟨t9, ht9, et9⟩ := bel_n (u >>> (5 &&& 31)) nt (nz c_29) (by omega)
      rw [show (bel (u >>> (5 &&& 31)) (nI nt) : Int32) = nI t9 from et9]
      refine lv_istore (lv' := [(4, .int (nI t9)), (3, .int (nI i9)), (0, .ref x), (1, .ref (S 0)), (2, .int u)]) hx hb dL_act_47 hl (by decide) rfl (fun ls hl => ?_)
      exact act_sw EA G (Or.inr ⟨i9, hi9, rfl⟩) (Or.inr ⟨t9, ht9, rfl⟩) hP hD hS (lv_sub hl [0, 1, 4, 3, 2] rfl)
    ·
      refine lv_iconst (v := (-1)) hx hb dL_act_32 (by decide) ?_
      refine lv_goto (tgt := 47) hx hb dL_act_33 (by decide) ?_
      refine lv_istore (lv' := [(4, .int (-1)), (3, .int (nI i9)), (0, .ref x), (1, .ref (S 0)), (2, .int u)]) hx hb dL_act_47 hl (by decide) rfl (fun ls hl => ?_)
      exact act_sw EA G (Or.inr ⟨i9, hi9, rfl⟩) (Or.inl ⟨nI_z (by omega) c_29, rfl⟩) hP hD hS (lv_sub hl [0, 1, 4, 3, 2] rfl)
  ·
    refine lv_iconst (v := (-1)) hx hb dL_act_8 (by decide) ?_
    refine lv_goto (tgt := 23) hx hb dL_act_9 (by decide) ?_
    refine lv_istore_n (lv' := [(3, .int (-1)), (0, .ref x), (1, .ref (S 0)), (2, .int u)]) hx hb dL_act_23 rfl hl (by decide) rfl (fun ls hl => ?_)
    refine lv_aload_n hx hb dL_act_24 rfl (lv_at hl 2 rfl) ?_
    refine w_getM hx hb hts iL_act_X4 hown hK hP (List.mem_append_right _ (sm_b 0 rfl)) rfl 6 (by decide) fL_act_21 rfl rfl (v := .ref (S 4)) dL_act_25 ?_
    refine w_alenA hx hb hK hP (List.mem_append_right _ (sm_b 4 rfl)) rfl dL_act_28 ?_
    refine lv_if_ne (tgt := 36) hx hb dL_act_29 (by decide) (fun c_29 => ?_) (fun c_29 => ?_)
    ·
      refine lv_iload_n hx hb dL_act_36 rfl (lv_at hl 3 rfl) ?_
      refine lv_iconst (v := 5) hx hb dL_act_37 (by decide) ?_
      refine lv_ishr hx hb dL_act_38 ?_
      refine lv_aload_n hx hb dL_act_39 rfl (lv_at hl 2 rfl) ?_
      refine w_getM hx hb hts iL_act_X4 hown hK hP (List.mem_append_right _ (sm_b 0 rfl)) rfl 6 (by decide) fL_act_21 rfl rfl (v := .ref (S 4)) dL_act_40 ?_
      refine w_alenA hx hb hK hP (List.mem_append_right _ (sm_b 4 rfl)) rfl dL_act_43 ?_
      refine c0_S (As := [.int (u >>> (5 &&& 31)), .int (nI nt)]) (rest := []) (ws' := YW cI cC cT x A b0 nc nt f g ++ (SM cI cL S C T nc nt f g)) ⟨hx, hb, hml, hown, hts⟩ (mL_below l D cI cC cT cL (u >>> (5 &&& 31)) (nI nt) c_29) (va_cwS 2 hts gL_act_L_below rfl rfl rfl pL_below ⟨Nat.le_of_ble_eq_true rfl, Nat.le_of_ble_eq_true rfl⟩) hK hP hD hS hA hST (Jf_nil _).1 rfl hl.1 rfl (Nat.le_of_ble_eq_true rfl) dL_act_44 ⟨Nat.le_of_ble_eq_true rfl, Nat.le_of_ble_eq_true rfl⟩ rfl (fun H locs hP hD hS => ?_)
      obtain ⟨t9, ht9, et9⟩ := bel_n (u >>> (5 &&& 31)) nt (nz c_29) (by omega)
      rw [show (bel (u >>> (5 &&& 31)) (nI nt) : Int32) = nI t9 from et9]
      refine lv_istore (lv' := [(4, .int (nI t9)), (3, .int (-1)), (0, .ref x), (1, .ref (S 0)), (2, .int u)]) hx hb dL_act_47 hl (by decide) rfl (fun ls hl => ?_)
      exact act_sw EA G (Or.inl ⟨nI_z (by omega) c_5, rfl⟩) (Or.inr ⟨t9, ht9, rfl⟩) hP hD hS (lv_sub hl [0, 1, 4, 3, 2] rfl)
    ·
      refine lv_iconst (v := (-1)) hx hb dL_act_32 (by decide) ?_
      refine lv_goto (tgt := 47) hx hb dL_act_33 (by decide) ?_
      refine lv_istore (lv' := [(4, .int (-1)), (3, .int (-1)), (0, .ref x), (1, .ref (S 0)), (2, .int u)]) hx hb dL_act_47 hl (by decide) rfl (fun ls hl => ?_)
      exact act_sw EA G (Or.inl ⟨nI_z (by omega) c_5, rfl⟩) (Or.inl ⟨nI_z (by omega) c_29, rfl⟩) hP hD hS (lv_sub hl [0, 1, 4, 3, 2] rfl)
