set_option maxHeartbeats 4000000 in
set_option maxRecDepth 100000 in
theorem mX3_share (l : Launch) (D : va_G) (cI cC cT cL : ClassId) (x b0 : Nat) (A : Nat → Nat) (nc nt : Nat) (f g : Nat → Int32) (hnt : nt ≤ 6) : M0 l yX3_share wsX3_share ({ frames := 1, cells := 0, slots := 0, locals := 23 } : Room) D (TY cI cC cT cL) [.ref x] (YW cI cC cT x A b0 nc nt f g) (some (.double (shareF nt f))) (YW cI cC cT x A b0 nc nt f g) 0 0 := by
  refine M0_of (cc := cX3_share) (maxL := 3) (ret := (some .double)) (by decide +kernel) rfl (Nat.le_of_ble_eq_true rfl) ?_
  intro p e s m args below meth c A0 B ls hl
  obtain ⟨hx, hb, hml, hr, hown, hts, hlocks, hK, hP, hD, hA, hST, hnm⟩ := B
  have hown : s.vm.findClass RX3 = some m.cls := hown
  have hS : va_S A0 s.heap s.heap [] := va_S.rf
  have hl : lv_has ls 3 [(0, .ref x)] := hl
  refine lv_aload_n hx hb dX3_share_0 rfl (lv_at hl 0 rfl) ?_
  refine w_get hx hb hts iX3_share_X3 hown hK hP 0 rfl rfl 0 (by decide) fX3_share_10 rfl rfl dX3_share_1 ?_
  refine c0_V (As := []) (rest := []) ⟨hx, hb, hml, hown, hts⟩ (mX0_soldScoops l D cI cC cT cL A nc nt f g hnt) (cwV 0 hts gX3_share_X0_soldScoops rfl rfl rfl pX0_soldScoops ⟨Nat.le_of_ble_eq_true rfl, Nat.le_of_ble_eq_true rfl⟩) hK hP hD hS hA hST (Jn_yw) 0 rfl rfl rfl rfl hl.1 rfl (Nat.le_of_ble_eq_true rfl) dX3_share_4 ⟨Nat.le_of_ble_eq_true rfl, Nat.le_of_ble_eq_true rfl⟩ rfl (fun H locs hP hD hS => ?_)
  refine lv_istore_n (lv' := [(1, .int (sumD f nt)), (0, .ref x)]) hx hb dX3_share_7 rfl hl (by decide) rfl (fun ls hl => ?_)
  refine lv_iload_n hx hb dX3_share_8 rfl (lv_at hl 0 rfl) ?_
  refine lv_aload_n hx hb dX3_share_9 rfl (lv_at hl 1 rfl) ?_
  refine w_get hx hb hts iX3_share_X3 hown hK hP 0 rfl rfl 0 (by decide) fX3_share_10 rfl rfl dX3_share_10 ?_
  refine w_getN hx hb hts iX3_share_X0 hown hK hST hP 1 rfl rfl 8 (by decide) 17 rfl rfl rfl dX3_share_13 ?_
  refine lv_iadd hx hb dX3_share_16 ?_
  refine lv_istore_n (lv' := [(2, .int ((sumD f nt) + (f 6))), (1, .int (sumD f nt)), (0, .ref x)]) hx hb dX3_share_17 rfl hl (by decide) rfl (fun ls hl => ?_)
  refine lv_iload_n hx hb dX3_share_18 rfl (lv_at hl 0 rfl) ?_
  refine lv_if_ne (tgt := 26) hx hb dX3_share_19 (by decide) (fun c_19 => ?_) (fun c_19 => ?_)
  ·
    refine lv_iload_n hx hb dX3_share_26 rfl (lv_at hl 1 rfl) ?_
    refine lv_i2d hx hb dX3_share_27 ?_
    refine lv_iload_n hx hb dX3_share_28 rfl (lv_at hl 0 rfl) ?_
    refine lv_i2d hx hb dX3_share_29 ?_
    refine lv_ddiv hx hb dX3_share_30 (fq_div _ _ c_19) ?_
    exact e0_d hx hb hr hlocks hP hS dX3_share_31 (by decide) (by decide) (by rw [shareF, if_neg c_19])
  ·
    refine lv_dconst0 hx hb dX3_share_22 ?_
    refine lv_goto (tgt := 31) hx hb dX3_share_23 (by decide) ?_
    exact e0_d hx hb hr hlocks hP hS dX3_share_31 (by decide) (by decide) (by rw [shareF, if_pos c_19])

set_option maxHeartbeats 4000000 in
set_option maxRecDepth 100000 in
theorem mX3_init (l : Launch) (D : va_G) (cI cC cT cL : ClassId) (h0 : Nat) : MN l yX3_init wsX3_init ({ frames := 3, cells := 30, slots := 120, locals := 64 } : Room) D (TY cI cC cT cL) [.ref h0] ([(h0, .inr (3, [.null, .null]))]) (fun w => ∃ A B : Nat → Nat, w = XW cI cC cT h0 A B 0 0 (fun _ => 0) (fun _ => 20) 0 0 (fun _ => 0) (fun _ => 20)) 30 120 := by
  refine MN_of (cc := cX3_init) (maxL := 1) (ret := none) (by decide +kernel) rfl (Nat.le_of_ble_eq_true rfl) ?_
  intro p e s m args below meth c A0 B ls hl
  obtain ⟨hx, hb, hml, hr, hown, hts, hlocks, hK, hP, hD, hA, hST, hnm⟩ := B
  have hown : s.vm.findClass RX3 = some m.cls := hown
  have hS : va_S A0 s.heap s.heap [] := va_S.rf
  have hl : lv_has ls 1 [(0, .ref h0)] := hl
  refine lv_aload_n hx hb dX3_init_0 rfl (lv_at hl 0 rfl) ?_
  refine W.objInit hx hb hown (hts _ oiX3_init) (hts _ ojX3_init) (hts _ okX3_init) rfl (by rw [hml]; exact hl.1) rfl dX3_init_1 (Nat.le_of_ble_eq_true rfl) (Nat.le_of_ble_eq_true rfl) ?_
  refine W.eq (g2 := F0 m 4 ls []) rfl ?_
  refine lv_aload_n hx hb dX3_init_4 rfl (lv_at hl 0 rfl) ?_
  refine w_new (ci := 0) (fs := [.null, .null, .null, .null, .int 0, .int 0, .int 0, .int 0, .int 0]) hx hb hts iX3_init_X0 tyX0_ok hown clX3_init_7 itX3_init_X0 inX3_init_X0 hK hP hD hS hA rfl (fun j hj => by rcases (show j = 0 ∨ j = 1 ∨ j = 2 ∨ j = 3 ∨ j = 4 ∨ j = 5 ∨ j = 6 ∨ j = 7 ∨ j = 8 by omega) with rfl | rfl | rfl | rfl | rfl | rfl | rfl | rfl | rfl <;> rfl) (Nat.le_of_ble_eq_true rfl) (Nat.le_of_ble_eq_true rfl) dX3_init_5 (fun q1 H hP hD hS => ?_)
  have hP : va_P D vwCl ([(h0, .inr (3, [.null, .null]))] ++ [(q1, .inr (0, [.null, .null, .null, .null, .int 0, .int 0, .int 0, .int 0, .int 0]))]) H := hP
  have hD : va_D A0 ([(h0, .inr (3, [.null, .null]))] ++ [(q1, .inr (0, [.null, .null, .null, .null, .int 0, .int 0, .int 0, .int 0, .int 0]))]) := hD
  refine lv_dup hx hb dX3_init_8 rfl ?_
  refine cN_I (As := []) (rest := [.ref q1, .ref h0]) (L := [(h0, .inr (3, [.null, .null]))]) ⟨hx, hb, hml, hown, hts⟩ (mX0_init l D cI cC cT cL q1) (cwI 0 hts gX3_init_X0_init rfl rfl rfl (hts _ inX3_init_X0) (hts _ lkX3_init_9) (hts _ imX3_init_X0_init) rfl pX0_init ⟨Nat.le_of_ble_eq_true rfl, Nat.le_of_ble_eq_true rfl⟩) hK hP hD hS hA hST rfl hl.1 rfl (Nat.le_of_ble_eq_true rfl) dX3_init_9 ⟨Nat.le_of_ble_eq_true rfl, Nat.le_of_ble_eq_true rfl⟩ (fun w1 hB H locs hP hD hS => ?_)
  obtain ⟨A, hAA, rfl⟩ := hB
  have hP9 := hP
  have hD9 := hD
  have hS9 := hS
  subst hAA
  have hP := hP9
  have hD := hD9
  have hS := hS9
  refine w_putF (C := RX3) hx hb hts iX3_init_X3 tyX3_ok nmX3 hown hK hP hD hS 0 rfl rfl 0 (by decide) fX3_init_10 rfl rfl hnm rfl rfl rfl (Nat.le_of_ble_eq_true rfl) (ws' := [(h0, .inr (3, [.ref (A 0), .null]))] ++ CW cI cC cT A 0 0 (fun _ => 0) (fun _ => 20)) rfl dX3_init_12 (fun H locs hP hD hS => ?_)
  refine lv_aload_n hx hb dX3_init_15 rfl (lv_at hl 0 rfl) ?_
  refine w_new (ci := 0) (fs := [.null, .null, .null, .null, .int 0, .int 0, .int 0, .int 0, .int 0]) hx hb hts iX3_init_X0 tyX0_ok hown clX3_init_7 itX3_init_X0 inX3_init_X0 hK hP hD hS hA rfl (fun j hj => by rcases (show j = 0 ∨ j = 1 ∨ j = 2 ∨ j = 3 ∨ j = 4 ∨ j = 5 ∨ j = 6 ∨ j = 7 ∨ j = 8 by omega) with rfl | rfl | rfl | rfl | rfl | rfl | rfl | rfl | rfl <;> rfl) (Nat.le_of_ble_eq_true rfl) (Nat.le_of_ble_eq_true rfl) dX3_init_16 (fun q2 H hP hD hS => ?_)
  have hP : va_P D vwCl ([(h0, .inr (3, [.ref (A 0), .null]))] ++ CW cI cC cT A 0 0 (fun _ => 0) (fun _ => 20) ++ [(q2, .inr (0, [.null, .null, .null, .null, .int 0, .int 0, .int 0, .int 0, .int 0]))]) H := hP
  have hD : va_D A0 ([(h0, .inr (3, [.ref (A 0), .null]))] ++ CW cI cC cT A 0 0 (fun _ => 0) (fun _ => 20) ++ [(q2, .inr (0, [.null, .null, .null, .null, .int 0, .int 0, .int 0, .int 0, .int 0]))]) := hD
  refine lv_dup hx hb dX3_init_19 rfl ?_
  refine cN_I (As := []) (rest := [.ref q2, .ref h0]) (L := [(h0, .inr (3, [.ref (A 0), .null]))] ++ CW cI cC cT A 0 0 (fun _ => 0) (fun _ => 20)) ⟨hx, hb, hml, hown, hts⟩ (mX0_init l D cI cC cT cL q2) (cwI 0 hts gX3_init_X0_init rfl rfl rfl (hts _ inX3_init_X0) (hts _ lkX3_init_9) (hts _ imX3_init_X0_init) rfl pX0_init ⟨Nat.le_of_ble_eq_true rfl, Nat.le_of_ble_eq_true rfl⟩) hK hP hD hS hA hST rfl hl.1 rfl (Nat.le_of_ble_eq_true rfl) dX3_init_20 ⟨Nat.le_of_ble_eq_true rfl, Nat.le_of_ble_eq_true rfl⟩ (fun w1 hB H locs hP hD hS => ?_)
  obtain ⟨B9, hAB, rfl⟩ := hB
  have hP9 := hP
  have hD9 := hD
  have hS9 := hS
  subst hAB
  have hP := hP9
  have hD := hD9
  have hS := hS9
  refine w_putF (C := RX3) hx hb hts iX3_init_X3 tyX3_ok nmX3 hown hK hP hD hS 0 rfl rfl 1 (by decide) fX3_init_16 rfl rfl hnm rfl rfl rfl (Nat.le_of_ble_eq_true rfl) (ws' := [(h0, .inr (3, [.ref (A 0), .ref (B9 0)]))] ++ CW cI cC cT A 0 0 (fun _ => 0) (fun _ => 20) ++ CW cI cC cT B9 0 0 (fun _ => 0) (fun _ => 20)) rfl dX3_init_23 (fun H locs hP hD hS => ?_)
  exact eN_v hx hb hr hlocks (⟨A, B9, rfl⟩) hP (D_fst (by rfl) hD) hS dX3_init_26 (by decide) (by decide)
