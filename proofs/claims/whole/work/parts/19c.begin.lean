set_option maxHeartbeats 4000000 in
set_option maxRecDepth 100000 in
theorem law_begin {p : Program} {l : Launch} {e : Env} {s : State} {m : MethodId} {args : Array Value} {below : List Frame} {meth : Method} {c : Code} {Q : State → Prop} {A0 : Nat → Prop} {b L : Nat} {xs : Nat → Int32} {D : va_G} {cI cC cT cL : ClassId} {ls : Array Slot} (EL : LE p l s m args c A0 b L xs D cI cC cT cL) (hL : L ≤ 2048) (kend : ∀ (H : Heap) (locs : List Loc) (ls : Array Slot), va_S A0 s.heap H locs → W p l e room_1 s m args below meth c H locs 601024 7293034 Q (F0 m 1092 ls [.int 1])) (hl : lv_has ls 9 [(0, .ref b)]) : W p l e room_1 s m args below meth c s.heap [] 0 0 Q (F0 m 0 ls []) := by
  have EL9 := EL
  obtain ⟨hx, hb, hml, hown, hts, hK, hST, hX, hbl, hbA, hA, hl0⟩ := EL9
  have hS : va_S A0 s.heap s.heap [] := va_S.rf
  have hP : va_P D vwCl [] s.heap := fun k q h => by simp at h
  have hD : va_D A0 [] := ⟨fun i j p q h => by simp at h, fun k q h => by simp at h⟩
  refine w_new (ci := 3) (fs := [.null, .null]) hx hb hts iL_law_X3 tyX3_ok hown clL_law_8 itL_law_X3 inL_law_X3 hK hP hD hS hA rfl (fun j hj => by rcases (show j = 0 ∨ j = 1 by omega) with rfl | rfl <;> rfl) (Nat.le_of_ble_eq_true rfl) (Nat.le_of_ble_eq_true rfl) dL_law_0 (fun q1 H hP hD hS => ?_)
  have hP : va_P D vwCl ([] ++ [(q1, .inr (3, [.null, .null]))]) H := hP
  have hD : va_D A0 ([] ++ [(q1, .inr (3, [.null, .null]))]) := hD
  refine lv_dup hx hb dL_law_3 rfl ?_
  refine cN_I (As := []) (rest := [.ref q1]) (L := []) ⟨hx, hb, hml, hown, hts⟩ (mX3_init l D cI cC cT cL q1) (cwI 0 hts gL_law_X3_init rfl rfl rfl (hts _ inL_law_X3) (hts _ lkL_law_61) (hts _ imL_law_X3_init) rfl pX3_init ⟨Nat.le_of_ble_eq_true rfl, Nat.le_of_ble_eq_true rfl⟩) hK hP hD hS hA hST rfl hl.1 rfl (Nat.le_of_ble_eq_true rfl) dL_law_4 ⟨(by show _ ≤ 601024; omega), (by show _ ≤ 7293034; omega)⟩ (fun w1 hB H locs hP hD hS => ?_)
  obtain ⟨A, B, rfl⟩ := hB
  have hP : va_P D vwCl (XW cI cC cT q1 A B 0 0 (fun _ => 0) (fun _ => 20) 0 0 (fun _ => 0) (fun _ => 20)) H := hP
  have hD : va_D A0 (XW cI cC cT q1 A B 0 0 (fun _ => 0) (fun _ => 20) 0 0 (fun _ => 0) (fun _ => 20)) := hD
  refine lv_astore_n (lv' := [(1, .ref q1), (0, .ref b)]) hx hb dL_law_7 rfl hl (by decide) rfl (fun ls hl => ?_)
  refine w_new (ci := 4) (fs := [.int 0, .int 0, .int 0, .null, .null, .null]) hx hb hts iL_law_X4 tyX4_ok hown clL_law_62 itL_law_X4 inL_law_X4 hK hP hD hS hA rfl (fun j hj => by rcases (show j = 0 ∨ j = 1 ∨ j = 2 ∨ j = 3 ∨ j = 4 ∨ j = 5 by omega) with rfl | rfl | rfl | rfl | rfl | rfl <;> rfl) (Nat.le_of_ble_eq_true rfl) (Nat.le_of_ble_eq_true rfl) dL_law_8 (fun q2 H hP hD hS => ?_)
  have hP : va_P D vwCl (XW cI cC cT q1 A B 0 0 (fun _ => 0) (fun _ => 20) 0 0 (fun _ => 0) (fun _ => 20) ++ [(q2, .inr (4, [.int 0, .int 0, .int 0, .null, .null, .null]))]) H := hP
  have hD : va_D A0 (XW cI cC cT q1 A B 0 0 (fun _ => 0) (fun _ => 20) 0 0 (fun _ => 0) (fun _ => 20) ++ [(q2, .inr (4, [.int 0, .int 0, .int 0, .null, .null, .null]))]) := hD
  refine lv_dup hx hb dL_law_11 rfl ?_
  refine cN_I (As := []) (rest := [.ref q2]) (L := XW cI cC cT q1 A B 0 0 (fun _ => 0) (fun _ => 20) 0 0 (fun _ => 0) (fun _ => 20)) ⟨hx, hb, hml, hown, hts⟩ (mX4_init l D cI cC cT cL q2) (cwI 0 hts gL_law_X4_init rfl rfl rfl (hts _ inL_law_X4) (hts _ lkL_law_64) (hts _ imL_law_X4_init) rfl pX4_init ⟨Nat.le_of_ble_eq_true rfl, Nat.le_of_ble_eq_true rfl⟩) hK hP hD hS hA hST rfl hl.1 rfl (Nat.le_of_ble_eq_true rfl) dL_law_12 ⟨(by show _ ≤ 601024; omega), (by show _ ≤ 7293034; omega)⟩ (fun w1 hB H locs hP hD hS => ?_)
  obtain ⟨M, hM, rfl⟩ := hB
  have hP9 := hP
  have hD9 := hD
  have hS9 := hS
  subst hM
  have hP := hP9
  have hD := hD9
  have hS := hS9
  refine lv_astore_n (lv' := [(2, .ref (M 0)), (1, .ref q1), (0, .ref b)]) hx hb dL_law_15 rfl hl (by decide) rfl (fun ls hl => ?_)
  refine lv_iconst (v := 1) hx hb dL_law_16 (by decide) ?_
  refine w_newl hx hb (hts _ acL_law_long) hK hP hD hS hA rfl 1 rfl (by decide) (Nat.le_of_ble_eq_true rfl) (Nat.le_of_ble_eq_true rfl) dL_law_17 (fun q3 H hP hD hS => ?_)
  have hP : va_P D vwCl (XW cI cC cT q1 A B 0 0 (fun _ => 0) (fun _ => 20) 0 0 (fun _ => 0) (fun _ => 20) ++ MW cI M 0 0 0 (fun _ => 0) (fun _ => 0) (fun _ => 20) ++ OB cL q3 (fun _ => 0)) H := hP
  have hD : va_D A0 (XW cI cC cT q1 A B 0 0 (fun _ => 0) (fun _ => 20) 0 0 (fun _ => 0) (fun _ => 20) ++ MW cI M 0 0 0 (fun _ => 0) (fun _ => 0) (fun _ => 20) ++ OB cL q3 (fun _ => 0)) := hD
  refine lv_astore_n (lv' := [(3, .ref q3), (2, .ref (M 0)), (1, .ref q1), (0, .ref b)]) hx hb dL_law_19 rfl hl (by decide) rfl (fun ls hl => ?_)
  refine lv_iconst (v := 0) hx hb dL_law_20 (by decide) ?_
  refine lv_istore (lv' := [(4, .int 0), (3, .ref q3), (2, .ref (M 0)), (1, .ref q1), (0, .ref b)]) hx hb dL_law_21 hl (by decide) rfl (fun ls hl => ?_)
  have pm := pm_w (YW cI cC cT q1 A (B 0) 0 0 (fun _ => 0) (fun _ => 20)) (CW cI cC cT B 0 0 (fun _ => 0) (fun _ => 20)) (MW cI M 0 0 0 (fun _ => 0) (fun _ => 0) (fun _ => 20)) (OB cL q3 (fun _ => 0))
  have hP : va_P D vwCl ((((YW cI cC cT q1 A (B 0) 0 0 (fun _ => 0) (fun _ => 20)) ++ (CW cI cC cT B 0 0 (fun _ => 0) (fun _ => 20))) ++ (MW cI M 0 0 0 (fun _ => 0) (fun _ => 0) (fun _ => 20))) ++ (OB cL q3 (fun _ => 0))) H := hP
  have hD : va_D A0 ((((YW cI cC cT q1 A (B 0) 0 0 (fun _ => 0) (fun _ => 20)) ++ (CW cI cC cT B 0 0 (fun _ => 0) (fun _ => 20))) ++ (MW cI M 0 0 0 (fun _ => 0) (fun _ => 0) (fun _ => 20))) ++ (OB cL q3 (fun _ => 0))) := hD
  exact law_loop EL hL kend 513 0 (by omega) (by omega) 0 0 (fun _ => 0) (fun _ => 20) (fun _ => 0) 0 0 (fun _ => 0) (fun _ => 20) 0 (fun _ => 0) 0 _ _ H locs ls gs_0 (by omega) (by omega) (by omega) (P_pm pm hP) (D_pm pm hD) hS (lv_sub hl [0, 1, 2, 3, 4] rfl)
