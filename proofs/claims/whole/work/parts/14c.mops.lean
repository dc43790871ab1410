set_option maxHeartbeats 4000000 in
set_option maxRecDepth 100000 in
theorem mX4_bring (l : Launch) (D : va_G) (cI cC cT cL : ClassId) (M : Nat → Nat) (th : Int32) (nc nt : Nat) (f k g : Nat → Int32) (u v : Int32) : M0 l yX4_bring wsX4_bring ({ frames := 1, cells := 0, slots := 0, locals := 22 } : Room) D (TY cI cC cT cL) [.ref (M 0), .int u, .int v] (MW cI M th nc nt f k g) (some (.int (sel (kBring u v) (bringF f u.toNatClampNeg v (u.toNatClampNeg + 1)) 0))) (MW cI M (nI (kBring u v)) nc nt (sel (kBring u v) (bringF f u.toNatClampNeg v) f) k g) 0 0 := by
  refine M0_of (cc := cX4_bring) (maxL := 3) (ret := (some .int)) (by decide +kernel) rfl (Nat.le_of_ble_eq_true rfl) ?_
  intro p e s m args below meth c A0 B ls hl
  obtain ⟨hx, hb, hml, hr, hown, hts, hlocks, hK, hP, hD, hA, hST, hnm⟩ := B
  have hown : s.vm.findClass RX4 = some m.cls := hown
  have hS : va_S A0 s.heap s.heap [] := va_S.rf
  have hl : lv_has ls 3 [(0, .ref (M 0)), (1, .int u), (2, .int v)] := hl
  obtain ⟨-, -, -, -, -, -, -, -, ⟨tS, hZ1, hT1⟩, ⟨tM, hZ2, hT2⟩, hAO1, hAO2⟩ := id hST
  refine lv_aload_n hx hb dX4_bring_0 rfl (lv_at hl 0 rfl) ?_
  refine lv_iconst (v := 0) hx hb dX4_bring_1 (by decide) ?_
  refine w_put (C := RX4) hx hb hts iX4_bring_X4 tyX4_ok nmX4 hown hK hP hD hS 0 rfl rfl 0 (by decide) fX4_bring_19 rfl rfl rfl rfl (Nat.le_of_ble_eq_true rfl) (ws' := MW cI M 0 nc nt f k g) rfl dX4_bring_2 (fun H locs hP hD hS => ?_)
  refine lv_iload_n hx hb dX4_bring_5 rfl (lv_at hl 1 rfl) ?_
  refine lv_iconst (v := 0) hx hb dX4_bring_6 (by decide) ?_
  refine lv_iconst (v := 3) hx hb dX4_bring_7 (by decide) ?_
  refine c0_S (As := [.int u, .int 0, .int 3]) (rest := []) ⟨hx, hb, hml, hown, hts⟩ (mX4_isIn l D cI cC cT cL u 0 3) (va_cwS 3 hts gX4_bring_X4_isIn rfl rfl rfl pX4_isIn ⟨Nat.le_of_ble_eq_true rfl, Nat.le_of_ble_eq_true rfl⟩) hK hP hD hS hA hST (Jn_nil _) rfl hl.1 rfl (Nat.le_of_ble_eq_true rfl) dX4_bring_8 ⟨Nat.le_of_ble_eq_true rfl, Nat.le_of_ble_eq_true rfl⟩ rfl (fun H locs hP hD hS => ?_)
  refine lv_if_ne (tgt := 20) hx hb dX4_bring_11 (by decide) (fun c_11 => ?_) (fun c_11 => ?_)
  ·
    refine lv_iload_n hx hb dX4_bring_20 rfl (lv_at hl 2 rfl) ?_
    refine lv_iconst (v := 1) hx hb dX4_bring_21 (by decide) ?_
    refine lv_sipush (v := 300) hx hb dX4_bring_22 (by decide) ?_
    refine c0_S (As := [.int v, .int 1, .int 300]) (rest := []) ⟨hx, hb, hml, hown, hts⟩ (mX4_isIn l D cI cC cT cL v 1 300) (va_cwS 3 hts gX4_bring_X4_isIn rfl rfl rfl pX4_isIn ⟨Nat.le_of_ble_eq_true rfl, Nat.le_of_ble_eq_true rfl⟩) hK hP hD hS hA hST (Jn_nil _) rfl hl.1 rfl (Nat.le_of_ble_eq_true rfl) dX4_bring_25 ⟨Nat.le_of_ble_eq_true rfl, Nat.le_of_ble_eq_true rfl⟩ rfl (fun H locs hP hD hS => ?_)
    refine lv_if_ne (tgt := 37) hx hb dX4_bring_28 (by decide) (fun c_28 => ?_) (fun c_28 => ?_)
    ·
      obtain ⟨w, hw, ew⟩ := cIn_n 3 (by decide) (inB_t c_11).1 (inB_t c_11).2
      subst ew
      refine lv_aload_n hx hb dX4_bring_37 rfl (lv_at hl 0 rfl) ?_
      refine w_get hx hb hts iX4_bring_X4 hown hK hP 0 rfl rfl 3 (by decide) fX4_bring_9 rfl rfl dX4_bring_38 ?_
      refine lv_iconst (v := 1) hx hb dX4_bring_41 (by decide) ?_
      refine lv_iload_n hx hb dX4_bring_42 rfl (lv_at hl 1 rfl) ?_
      refine lv_iadd hx hb dX4_bring_43 ?_
      refine va_gets hx hb hZ2 hS hown (hts _ fX4_bring_37) (fun _ h9 => h9) dX4_bring_44 ?_
      refine lv_iconst (v := 1) hx hb dX4_bring_47 (by decide) ?_
      refine lv_iload_n hx hb dX4_bring_48 rfl (lv_at hl 1 rfl) ?_
      refine lv_iadd hx hb dX4_bring_49 ?_
      refine va_ti hx hb hT2 hS (nin (ix1 w) (by omega) (by decide)) (v := .int (mostF (w + 1))) (by rw [ix1 w, nI_clamp (by omega)]) dX4_bring_50 ?_
      refine lv_aload_n hx hb dX4_bring_51 rfl (lv_at hl 0 rfl) ?_
      refine w_get hx hb hts iX4_bring_X4 hown hK hP 0 rfl rfl 3 (by decide) fX4_bring_9 rfl rfl dX4_bring_52 ?_
      refine lv_iconst (v := 1) hx hb dX4_bring_55 (by decide) ?_
      refine lv_iload_n hx hb dX4_bring_56 rfl (lv_at hl 1 rfl) ?_
      refine lv_iadd hx hb dX4_bring_57 ?_
      refine w_ild hx hb hK hP 1 0 rfl rfl (w + 1) (ix1 w) (by omega) (by decide) (v := f (w + 1)) rfl dX4_bring_58 ?_
      refine lv_iload_n hx hb dX4_bring_59 rfl (lv_at hl 2 rfl) ?_
      refine lv_iadd hx hb dX4_bring_60 ?_
      refine w_mmin hx hb (hml.trans hl.1.symm) hown (hts _ mlX4_bring_40) (hts _ msX4_bring_min) (hts _ miX4_bring) (hts _ mcX4_bring_min) (Nat.le_of_ble_eq_true rfl) (Nat.le_of_ble_eq_true rfl) (Nat.le_of_ble_eq_true rfl) (Nat.le_of_ble_eq_true rfl) dX4_bring_61 ?_
      refine w_ist hx hb hK hP hD hS 1 0 rfl rfl (w + 1) (ix1 w) (by omega) (by decide) (ws' := MW cI M 0 nc nt (upd f (w + 1) (imn (mostF (w + 1)) ((f (w + 1)) + v))) k g) rfl dX4_bring_64 (fun H locs hP hD hS => ?_)
      refine lv_aload_n hx hb dX4_bring_65 rfl (lv_at hl 0 rfl) ?_
      refine w_get hx hb hts iX4_bring_X4 hown hK hP 0 rfl rfl 3 (by decide) fX4_bring_9 rfl rfl dX4_bring_66 ?_
      refine lv_iconst (v := 1) hx hb dX4_bring_69 (by decide) ?_
      refine lv_iload_n hx hb dX4_bring_70 rfl (lv_at hl 1 rfl) ?_
      refine lv_iadd hx hb dX4_bring_71 ?_
      refine w_ild hx hb hK hP 1 0 rfl rfl (w + 1) (ix1 w) (by omega) (by decide) (v := (upd f (w + 1) (imn (mostF (w + 1)) ((f (w + 1)) + v))) (w + 1)) rfl dX4_bring_72 ?_
      have hK9 : kBring (nI w) v = 0 := by rw [kBring, if_pos (inB_t c_11), if_pos (inB_t c_28)]
      exact e0_i hx hb hr hlocks (P_eq (by first | (rw [hK9, sel_0, nI_clamp (by omega), nI_clamp (by omega), nI_clamp (by omega), ← bringm (by omega)] <;> rfl) | (rw [hK9, sel_0, nI_clamp (by omega), nI_clamp (by omega), ← bringm (by omega)] <;> rfl) | (rw [hK9, sel_0, nI_clamp (by omega), ← bringm (by omega)] <;> rfl) | (rw [hK9, sel_0, ← bringm (by omega)] <;> rfl) | (rw [hK9, ← bringm (by omega)] <;> rfl)) hP) hS dX4_bring_73 (by decide) (by decide) (by first | (rw [hK9, sel_0, nI_clamp (by omega), nI_clamp (by omega), nI_clamp (by omega), ← bringm (by omega)] <;> rfl) | (rw [hK9, sel_0, nI_clamp (by omega), nI_clamp (by omega), ← bringm (by omega)] <;> rfl) | (rw [hK9, sel_0, nI_clamp (by omega), ← bringm (by omega)] <;> rfl) | (rw [hK9, sel_0, ← bringm (by omega)] <;> rfl) | (rw [hK9, ← bringm (by omega)] <;> rfl))
    ·
      refine lv_aload_n hx hb dX4_bring_31 rfl (lv_at hl 0 rfl) ?_
      refine lv_iconst (v := 2) hx hb dX4_bring_32 (by decide) ?_
      refine c0_V (As := [.int 2]) (rest := []) ⟨hx, hb, hml, hown, hts⟩ (mX4_no l D cI cC cT cL M 0 nc nt f k g 2) (cwV 1 hts gX4_bring_X4_no rfl rfl rfl pX4_no ⟨Nat.le_of_ble_eq_true rfl, Nat.le_of_ble_eq_true rfl⟩) hK hP hD hS hA hST (Jn_mw) 0 rfl rfl rfl rfl hl.1 rfl (Nat.le_of_ble_eq_true rfl) dX4_bring_33 ⟨Nat.le_of_ble_eq_true rfl, Nat.le_of_ble_eq_true rfl⟩ rfl (fun H locs hP hD hS => ?_)
      have hK9 : kBring u v = 2 := by rw [kBring, if_pos (inB_t c_11), if_neg (inB_f c_28)]
      exact e0_i hx hb hr hlocks (P_eq (by (rw [hK9] <;> rfl)) hP) hS dX4_bring_36 (by decide) (by decide) (by (rw [hK9] <;> rfl))
  ·
    refine lv_aload_n hx hb dX4_bring_14 rfl (lv_at hl 0 rfl) ?_
    refine lv_iconst (v := 1) hx hb dX4_bring_15 (by decide) ?_
    refine c0_V (As := [.int 1]) (rest := []) ⟨hx, hb, hml, hown, hts⟩ (mX4_no l D cI cC cT cL M 0 nc nt f k g 1) (cwV 1 hts gX4_bring_X4_no rfl rfl rfl pX4_no ⟨Nat.le_of_ble_eq_true rfl, Nat.le_of_ble_eq_true rfl⟩) hK hP hD hS hA hST (Jn_mw) 0 rfl rfl rfl rfl hl.1 rfl (Nat.le_of_ble_eq_true rfl) dX4_bring_16 ⟨Nat.le_of_ble_eq_true rfl, Nat.le_of_ble_eq_true rfl⟩ rfl (fun H locs hP hD hS => ?_)
    have hK9 : kBring u v = 1 := by rw [kBring, if_neg (inB_f c_11)]
    exact e0_i hx hb hr hlocks (P_eq (by (rw [hK9] <;> rfl)) hP) hS dX4_bring_19 (by decide) (by decide) (by (rw [hK9] <;> rfl))

set_option maxHeartbeats 4000000 in
set_option maxRecDepth 100000 in
theorem mX4_setHeat (l : Launch) (D : va_G) (cI cC cT cL : ClassId) (M : Nat → Nat) (th : Int32) (nc nt : Nat) (f k g : Nat → Int32) (u v : Int32) : M0 l yX4_setHeat wsX4_setHeat ({ frames := 1, cells := 0, slots := 0, locals := 22 } : Room) D (TY cI cC cT cL) [.ref (M 0), .int u, .int v] (MW cI M th nc nt f k g) (some (.int (sel (kHeat u v) (g u.toNatClampNeg) 0))) (MW cI M (nI (kHeat u v)) nc nt f k (sel (kHeat u v) (upd g u.toNatClampNeg v) g)) 0 0 := by
  refine M0_of (cc := cX4_setHeat) (maxL := 4) (ret := (some .int)) (by decide +kernel) rfl (Nat.le_of_ble_eq_true rfl) ?_
  intro p e s m args below meth c A0 B ls hl
  obtain ⟨hx, hb, hml, hr, hown, hts, hlocks, hK, hP, hD, hA, hST, hnm⟩ := B
  have hown : s.vm.findClass RX4 = some m.cls := hown
  have hS : va_S A0 s.heap s.heap [] := va_S.rf
  have hl : lv_has ls 4 [(0, .ref (M 0)), (1, .int u), (2, .int v)] := hl
  refine lv_aload_n hx hb dX4_setHeat_0 rfl (lv_at hl 0 rfl) ?_
  refine lv_iconst (v := 0) hx hb dX4_setHeat_1 (by decide) ?_
  refine w_put (C := RX4) hx hb hts iX4_setHeat_X4 tyX4_ok nmX4 hown hK hP hD hS 0 rfl rfl 0 (by decide) fX4_setHeat_19 rfl rfl rfl rfl (Nat.le_of_ble_eq_true rfl) (ws' := MW cI M 0 nc nt f k g) rfl dX4_setHeat_2 (fun H locs hP hD hS => ?_)
  refine lv_iload_n hx hb dX4_setHeat_5 rfl (lv_at hl 1 rfl) ?_
  refine lv_iconst (v := 0) hx hb dX4_setHeat_6 (by decide) ?_
  refine lv_bipush (v := 6) hx hb dX4_setHeat_7 (by decide) ?_
  refine c0_S (As := [.int u, .int 0, .int 6]) (rest := []) ⟨hx, hb, hml, hown, hts⟩ (mX4_isIn l D cI cC cT cL u 0 6) (va_cwS 3 hts gX4_setHeat_X4_isIn rfl rfl rfl pX4_isIn ⟨Nat.le_of_ble_eq_true rfl, Nat.le_of_ble_eq_true rfl⟩) hK hP hD hS hA hST (Jn_nil _) rfl hl.1 rfl (Nat.le_of_ble_eq_true rfl) dX4_setHeat_9 ⟨Nat.le_of_ble_eq_true rfl, Nat.le_of_ble_eq_true rfl⟩ rfl (fun H locs hP hD hS => ?_)
  refine lv_if_ne (tgt := 21) hx hb dX4_setHeat_12 (by decide) (fun c_12 => ?_) (fun c_12 => ?_)
  ·
    refine lv_iload_n hx hb dX4_setHeat_21 rfl (lv_at hl 2 rfl) ?_
    refine lv_iconst (v := 0) hx hb dX4_setHeat_22 (by decide) ?_
    refine lv_bipush (v := 40) hx hb dX4_setHeat_23 (by decide) ?_
    refine c0_S (As := [.int v, .int 0, .int 40]) (rest := []) ⟨hx, hb, hml, hown, hts⟩ (mX4_isIn l D cI cC cT cL v 0 40) (va_cwS 3 hts gX4_setHeat_X4_isIn rfl rfl rfl pX4_isIn ⟨Nat.le_of_ble_eq_true rfl, Nat.le_of_ble_eq_true rfl⟩) hK hP hD hS hA hST (Jn_nil _) rfl hl.1 rfl (Nat.le_of_ble_eq_true rfl) dX4_setHeat_25 ⟨Nat.le_of_ble_eq_true rfl, Nat.le_of_ble_eq_true rfl⟩ rfl (fun H locs hP hD hS => ?_)
    refine lv_if_ne (tgt := 37) hx hb dX4_setHeat_28 (by decide) (fun c_28 => ?_) (fun c_28 => ?_)
    ·
      obtain ⟨w, hw, ew⟩ := cIn_n 6 (by decide) (inB_t c_12).1 (inB_t c_12).2
      subst ew
      refine lv_aload_n hx hb dX4_setHeat_37 rfl (lv_at hl 0 rfl) ?_
      refine w_get hx hb hts iX4_setHeat_X4 hown hK hP 0 rfl rfl 5 (by decide) fX4_setHeat_16 rfl rfl dX4_setHeat_38 ?_
      refine lv_iload_n hx hb dX4_setHeat_41 rfl (lv_at hl 1 rfl) ?_
      refine w_ild hx hb hK hP 3 0 rfl rfl w rfl (by omega) (by decide) (v := g w) rfl dX4_setHeat_42 ?_
      refine lv_istore_n (lv' := [(3, .int (g w)), (0, .ref (M 0)), (1, .int (nI w)), (2, .int v)]) hx hb dX4_setHeat_43 rfl hl (by decide) rfl (fun ls hl => ?_)
      refine lv_aload_n hx hb dX4_setHeat_44 rfl (lv_at hl 1 rfl) ?_
      refine w_get hx hb hts iX4_setHeat_X4 hown hK hP 0 rfl rfl 5 (by decide) fX4_setHeat_16 rfl rfl dX4_setHeat_45 ?_
      refine lv_iload_n hx hb dX4_setHeat_48 rfl (lv_at hl 2 rfl) ?_
      refine lv_iload_n hx hb dX4_setHeat_49 rfl (lv_at hl 3 rfl) ?_
      refine w_ist hx hb hK hP hD hS 3 0 rfl rfl w rfl (by omega) (by decide) (ws' := MW cI M 0 nc nt f k (upd g w v)) rfl dX4_setHeat_50 (fun H locs hP hD hS => ?_)
      refine lv_iload_n hx hb dX4_setHeat_51 rfl (lv_at hl 0 rfl) ?_
      have hK9 : kHeat (nI w) v = 0 := by rw [kHeat, if_pos (inB_t c_12), if_pos (inB_t c_28)]
      exact e0_i hx hb hr hlocks (P_eq (by first | (rw [hK9, sel_0, nI_clamp (by omega), nI_clamp (by omega), nI_clamp (by omega)] <;> rfl) | (rw [hK9, sel_0, nI_clamp (by omega), nI_clamp (by omega)] <;> rfl) | (rw [hK9, sel_0, nI_clamp (by omega)] <;> rfl) | (rw [hK9, sel_0] <;> rfl) | (rw [hK9] <;> rfl)) hP) hS dX4_setHeat_52 (by decide) (by decide) (by first | (rw [hK9, sel_0, nI_clamp (by omega), nI_clamp (by omega), nI_clamp (by omega)] <;> rfl) | (rw [hK9, sel_0, nI_clamp (by omega), nI_clamp (by omega)] <;> rfl) | (rw [hK9, sel_0, nI_clamp (by omega)] <;> rfl) | (rw [hK9, sel_0] <;> rfl) | (rw [hK9] <;> rfl))
    ·
      refine lv_aload_n hx hb dX4_setHeat_31 rfl (lv_at hl 0 rfl) ?_
      refine lv_iconst (v := 2) hx hb dX4_setHeat_32 (by decide) ?_
      refine c0_V (As := [.int 2]) (rest := []) ⟨hx, hb, hml, hown, hts⟩ (mX4_no l D cI cC cT cL M 0 nc nt f k g 2) (cwV 1 hts gX4_setHeat_X4_no rfl rfl rfl pX4_no ⟨Nat.le_of_ble_eq_true rfl, Nat.le_of_ble_eq_true rfl⟩) hK hP hD hS hA hST (Jn_mw) 0 rfl rfl rfl rfl hl.1 rfl (Nat.le_of_ble_eq_true rfl) dX4_setHeat_33 ⟨Nat.le_of_ble_eq_true rfl, Nat.le_of_ble_eq_true rfl⟩ rfl (fun H locs hP hD hS => ?_)
      have hK9 : kHeat u v = 2 := by rw [kHeat, if_pos (inB_t c_12), if_neg (inB_f c_28)]
      exact e0_i hx hb hr hlocks (P_eq (by (rw [hK9] <;> rfl)) hP) hS dX4_setHeat_36 (by decide) (by decide) (by (rw [hK9] <;> rfl))
  ·
    refine lv_aload_n hx hb dX4_setHeat_15 rfl (lv_at hl 0 rfl) ?_
    refine lv_iconst (v := 1) hx hb dX4_setHeat_16 (by decide) ?_
    refine c0_V (As := [.int 1]) (rest := []) ⟨hx, hb, hml, hown, hts⟩ (mX4_no l D cI cC cT cL M 0 nc nt f k g 1) (cwV 1 hts gX4_setHeat_X4_no rfl rfl rfl pX4_no ⟨Nat.le_of_ble_eq_true rfl, Nat.le_of_ble_eq_true rfl⟩) hK hP hD hS hA hST (Jn_mw) 0 rfl rfl rfl rfl hl.1 rfl (Nat.le_of_ble_eq_true rfl) dX4_setHeat_17 ⟨Nat.le_of_ble_eq_true rfl, Nat.le_of_ble_eq_true rfl⟩ rfl (fun H locs hP hD hS => ?_)
    have hK9 : kHeat u v = 1 := by rw [kHeat, if_neg (inB_f c_12)]
    exact e0_i hx hb hr hlocks (P_eq (by (rw [hK9] <;> rfl)) hP) hS dX4_setHeat_20 (by decide) (by decide) (by (rw [hK9] <;> rfl))

set_option maxHeartbeats 4000000 in
set_option maxRecDepth 100000 in
theorem mX4_churn (l : Launch) (D : va_G) (cI cC cT cL : ClassId) (M : Nat → Nat) (th : Int32) (nc nt : Nat) (f k g : Nat → Int32) (hnc : nc ≤ 4) : M0 l yX4_churn wsX4_churn ({ frames := 1, cells := 0, slots := 0, locals := 21 } : Room) D (TY cI cC cT cL) [.ref (M 0)] (MW cI M th nc nt f k g) (some (.int (sel (kChurn nc) (nI nc) 0))) (MW cI M (nI (kChurn nc)) (sel (kChurn nc) (nc + 1) nc) nt f k g) 0 0 := by
  refine M0_of (cc := cX4_churn) (maxL := 1) (ret := (some .int)) (by decide +kernel) rfl (Nat.le_of_ble_eq_true rfl) ?_
  intro p e s m args below meth c A0 B ls hl
  obtain ⟨hx, hb, hml, hr, hown, hts, hlocks, hK, hP, hD, hA, hST, hnm⟩ := B
  have hown : s.vm.findClass RX4 = some m.cls := hown
  have hS : va_S A0 s.heap s.heap [] := va_S.rf
  have hl : lv_has ls 1 [(0, .ref (M 0))] := hl
  refine lv_aload_n hx hb dX4_churn_0 rfl (lv_at hl 0 rfl) ?_
  refine lv_iconst (v := 0) hx hb dX4_churn_1 (by decide) ?_
  refine w_put (C := RX4) hx hb hts iX4_churn_X4 tyX4_ok nmX4 hown hK hP hD hS 0 rfl rfl 0 (by decide) fX4_churn_19 rfl rfl rfl rfl (Nat.le_of_ble_eq_true rfl) (ws' := MW cI M 0 nc nt f k g) rfl dX4_churn_2 (fun H locs hP hD hS => ?_)
  refine lv_aload_n hx hb dX4_churn_5 rfl (lv_at hl 0 rfl) ?_
  refine w_get hx hb hts iX4_churn_X4 hown hK hP 0 rfl rfl 1 (by decide) fX4_churn_23 rfl rfl dX4_churn_6 ?_
  refine lv_iconst (v := 4) hx hb dX4_churn_9 (by decide) ?_
  refine lv_icmp_ne (tgt := 19) hx hb dX4_churn_10 (by decide) (fun c_10 => ?_) (fun c_10 => ?_)
  ·
    refine lv_aload_n hx hb dX4_churn_19 rfl (lv_at hl 0 rfl) ?_
    refine lv_dup hx hb dX4_churn_20 rfl ?_
    refine w_get hx hb hts iX4_churn_X4 hown hK hP 0 rfl rfl 1 (by decide) fX4_churn_23 rfl rfl dX4_churn_21 ?_
    refine lv_iconst (v := 1) hx hb dX4_churn_24 (by decide) ?_
    refine lv_iadd hx hb dX4_churn_25 ?_
    refine w_put (C := RX4) hx hb hts iX4_churn_X4 tyX4_ok nmX4 hown hK hP hD hS 0 rfl rfl 1 (by decide) fX4_churn_23 rfl rfl rfl rfl (Nat.le_of_ble_eq_true rfl) (ws' := MW cI M 0 (nc + 1) nt f k g) (by rw [← nI_succ]; rfl) dX4_churn_26 (fun H locs hP hD hS => ?_)
    refine lv_aload_n hx hb dX4_churn_29 rfl (lv_at hl 0 rfl) ?_
    refine w_get hx hb hts iX4_churn_X4 hown hK hP 0 rfl rfl 1 (by decide) fX4_churn_23 rfl rfl dX4_churn_30 ?_
    refine lv_iconst (v := 1) hx hb dX4_churn_33 (by decide) ?_
    refine lv_isub hx hb dX4_churn_34 ?_
    have hK9 : kChurn nc = 0 := kch_0 hnc c_10
    exact e0_i hx hb hr hlocks (P_eq (by first | (rw [hK9, sel_0, nI_clamp (by omega), nI_clamp (by omega), nI_clamp (by omega)] <;> rfl) | (rw [hK9, sel_0, nI_clamp (by omega), nI_clamp (by omega)] <;> rfl) | (rw [hK9, sel_0, nI_clamp (by omega)] <;> rfl) | (rw [hK9, sel_0] <;> rfl) | (rw [hK9] <;> rfl)) hP) hS dX4_churn_35 (by decide) (by decide) (by first | (rw [hK9, sel_0, nI_clamp (by omega), nI_clamp (by omega), nI_clamp (by omega), nI_pred] <;> rfl) | (rw [hK9, sel_0, nI_clamp (by omega), nI_clamp (by omega), nI_pred] <;> rfl) | (rw [hK9, sel_0, nI_clamp (by omega), nI_pred] <;> rfl) | (rw [hK9, sel_0, nI_pred] <;> rfl) | (rw [hK9, nI_pred] <;> rfl))
  ·
    refine lv_aload_n hx hb dX4_churn_13 rfl (lv_at hl 0 rfl) ?_
    refine lv_iconst (v := 1) hx hb dX4_churn_14 (by decide) ?_
    refine c0_V (As := [.int 1]) (rest := []) ⟨hx, hb, hml, hown, hts⟩ (mX4_no l D cI cC cT cL M 0 nc nt f k g 1) (cwV 1 hts gX4_churn_X4_no rfl rfl rfl pX4_no ⟨Nat.le_of_ble_eq_true rfl, Nat.le_of_ble_eq_true rfl⟩) hK hP hD hS hA hST (Jn_mw) 0 rfl rfl rfl rfl hl.1 rfl (Nat.le_of_ble_eq_true rfl) dX4_churn_15 ⟨Nat.le_of_ble_eq_true rfl, Nat.le_of_ble_eq_true rfl⟩ rfl (fun H locs hP hD hS => ?_)
    have hK9 : kChurn nc = 1 := kch_1 c_10
    exact e0_i hx hb hr hlocks (P_eq (by (rw [hK9] <;> rfl)) hP) hS dX4_churn_18 (by decide) (by decide) (by (rw [hK9] <;> rfl))

set_option maxHeartbeats 4000000 in
set_option maxRecDepth 100000 in
theorem mX4_tub (l : Launch) (D : va_G) (cI cC cT cL : ClassId) (M : Nat → Nat) (th : Int32) (nc nt : Nat) (f k g : Nat → Int32) (hnt : nt ≤ 6) : M0 l yX4_tub wsX4_tub ({ frames := 1, cells := 0, slots := 0, locals := 21 } : Room) D (TY cI cC cT cL) [.ref (M 0)] (MW cI M th nc nt f k g) (some (.int (sel (kTub nt) (nI nt) 0))) (MW cI M (nI (kTub nt)) nc (sel (kTub nt) (nt + 1) nt) f k g) 0 0 := by
  refine M0_of (cc := cX4_tub) (maxL := 1) (ret := (some .int)) (by decide +kernel) rfl (Nat.le_of_ble_eq_true rfl) ?_
  intro p e s m args below meth c A0 B ls hl
  obtain ⟨hx, hb, hml, hr, hown, hts, hlocks, hK, hP, hD, hA, hST, hnm⟩ := B
  have hown : s.vm.findClass RX4 = some m.cls := hown
  have hS : va_S A0 s.heap s.heap [] := va_S.rf
  have hl : lv_has ls 1 [(0, .ref (M 0))] := hl
  refine lv_aload_n hx hb dX4_tub_0 rfl (lv_at hl 0 rfl) ?_
  refine lv_iconst (v := 0) hx hb dX4_tub_1 (by decide) ?_
  refine w_put (C := RX4) hx hb hts iX4_tub_X4 tyX4_ok nmX4 hown hK hP hD hS 0 rfl rfl 0 (by decide) fX4_tub_19 rfl rfl rfl rfl (Nat.le_of_ble_eq_true rfl) (ws' := MW cI M 0 nc nt f k g) rfl dX4_tub_2 (fun H locs hP hD hS => ?_)
  refine lv_aload_n hx hb dX4_tub_5 rfl (lv_at hl 0 rfl) ?_
  refine w_get hx hb hts iX4_tub_X4 hown hK hP 0 rfl rfl 2 (by decide) fX4_tub_30 rfl rfl dX4_tub_6 ?_
  refine lv_bipush (v := 6) hx hb dX4_tub_9 (by decide) ?_
  refine lv_icmp_ne (tgt := 20) hx hb dX4_tub_11 (by decide) (fun c_11 => ?_) (fun c_11 => ?_)
  ·
    refine lv_aload_n hx hb dX4_tub_20 rfl (lv_at hl 0 rfl) ?_
    refine lv_dup hx hb dX4_tub_21 rfl ?_
    refine w_get hx hb hts iX4_tub_X4 hown hK hP 0 rfl rfl 2 (by decide) fX4_tub_30 rfl rfl dX4_tub_22 ?_
    refine lv_iconst (v := 1) hx hb dX4_tub_25 (by decide) ?_
    refine lv_iadd hx hb dX4_tub_26 ?_
    refine w_put (C := RX4) hx hb hts iX4_tub_X4 tyX4_ok nmX4 hown hK hP hD hS 0 rfl rfl 2 (by decide) fX4_tub_30 rfl rfl rfl rfl (Nat.le_of_ble_eq_true rfl) (ws' := MW cI M 0 nc (nt + 1) f k g) (by rw [← nI_succ]; rfl) dX4_tub_27 (fun H locs hP hD hS => ?_)
    refine lv_aload_n hx hb dX4_tub_30 rfl (lv_at hl 0 rfl) ?_
    refine w_get hx hb hts iX4_tub_X4 hown hK hP 0 rfl rfl 2 (by decide) fX4_tub_30 rfl rfl dX4_tub_31 ?_
    refine lv_iconst (v := 1) hx hb dX4_tub_34 (by decide) ?_
    refine lv_isub hx hb dX4_tub_35 ?_
    have hK9 : kTub nt = 0 := ktu_0 hnt c_11
    exact e0_i hx hb hr hlocks (P_eq (by first | (rw [hK9, sel_0, nI_clamp (by omega), nI_clamp (by omega), nI_clamp (by omega)] <;> rfl) | (rw [hK9, sel_0, nI_clamp (by omega), nI_clamp (by omega)] <;> rfl) | (rw [hK9, sel_0, nI_clamp (by omega)] <;> rfl) | (rw [hK9, sel_0] <;> rfl) | (rw [hK9] <;> rfl)) hP) hS dX4_tub_36 (by decide) (by decide) (by first | (rw [hK9, sel_0, nI_clamp (by omega), nI_clamp (by omega), nI_clamp (by omega), nI_pred] <;> rfl) | (rw [hK9, sel_0, nI_clamp (by omega), nI_clamp (by omega), nI_pred] <;> rfl) | (rw [hK9, sel_0, nI_clamp (by omega), nI_pred] <;> rfl) | (rw [hK9, sel_0, nI_pred] <;> rfl) | (rw [hK9, nI_pred] <;> rfl))
  ·
    refine lv_aload_n hx hb dX4_tub_14 rfl (lv_at hl 0 rfl) ?_
    refine lv_iconst (v := 1) hx hb dX4_tub_15 (by decide) ?_
    refine c0_V (As := [.int 1]) (rest := []) ⟨hx, hb, hml, hown, hts⟩ (mX4_no l D cI cC cT cL M 0 nc nt f k g 1) (cwV 1 hts gX4_tub_X4_no rfl rfl rfl pX4_no ⟨Nat.le_of_ble_eq_true rfl, Nat.le_of_ble_eq_true rfl⟩) hK hP hD hS hA hST (Jn_mw) 0 rfl rfl rfl rfl hl.1 rfl (Nat.le_of_ble_eq_true rfl) dX4_tub_16 ⟨Nat.le_of_ble_eq_true rfl, Nat.le_of_ble_eq_true rfl⟩ rfl (fun H locs hP hD hS => ?_)
    have hK9 : kTub nt = 1 := ktu_1 c_11
    exact e0_i hx hb hr hlocks (P_eq (by (rw [hK9] <;> rfl)) hP) hS dX4_tub_19 (by decide) (by decide) (by (rw [hK9] <;> rfl))

set_option maxHeartbeats 4000000 in
set_option maxRecDepth 100000 in
theorem mX4_pack (l : Launch) (D : va_G) (cI cC cT cL : ClassId) (M : Nat → Nat) (th : Int32) (nc nt : Nat) (f k g : Nat → Int32) (u v z : Int32) (hnc : nc ≤ 4) : M0 l yX4_pack wsX4_pack ({ frames := 2, cells := 0, slots := 0, locals := 45 } : Room) D (TY cI cC cT cL) [.ref (M 0), .int u, .int v, .int z] (MW cI M th nc nt f k g) (some (.int (sel (kPack nc f u v z) (packF f u.toNatClampNeg v z (7 + 3 * u.toNatClampNeg)) 0))) (MW cI M (nI (kPack nc f u v z)) nc nt (sel (kPack nc f u v z) (packF f u.toNatClampNeg v z) f) k g) 0 0 := by
  refine M0_of (cc := cX4_pack) (maxL := 4) (ret := (some .int)) (by decide +kernel) rfl (Nat.le_of_ble_eq_true rfl) ?_
  intro p e s m args below meth c A0 B ls hl
  obtain ⟨hx, hb, hml, hr, hown, hts, hlocks, hK, hP, hD, hA, hST, hnm⟩ := B
  have hown : s.vm.findClass RX4 = some m.cls := hown
  have hS : va_S A0 s.heap s.heap [] := va_S.rf
  have hl : lv_has ls 4 [(0, .ref (M 0)), (1, .int u), (2, .int v), (3, .int z)] := hl
  refine lv_aload_n hx hb dX4_pack_0 rfl (lv_at hl 0 rfl) ?_
  refine lv_iconst (v := 0) hx hb dX4_pack_1 (by decide) ?_
  refine w_put (C := RX4) hx hb hts iX4_pack_X4 tyX4_ok nmX4 hown hK hP hD hS 0 rfl rfl 0 (by decide) fX4_pack_19 rfl rfl rfl rfl (Nat.le_of_ble_eq_true rfl) (ws' := MW cI M 0 nc nt f k g) rfl dX4_pack_2 (fun H locs hP hD hS => ?_)
  refine lv_aload_n hx hb dX4_pack_5 rfl (lv_at hl 0 rfl) ?_
  refine lv_iload_n hx hb dX4_pack_6 rfl (lv_at hl 1 rfl) ?_
  refine c0_V (As := [.int u]) (rest := []) ⟨hx, hb, hml, hown, hts⟩ (mX4_isChurn l D cI cC cT cL M 0 nc nt f k g u) (cwV 1 hts gX4_pack_X4_isChurn rfl rfl rfl pX4_isChurn ⟨Nat.le_of_ble_eq_true rfl, Nat.le_of_ble_eq_true rfl⟩) hK hP hD hS hA hST (Jn_mw) 0 rfl rfl rfl rfl hl.1 rfl (Nat.le_of_ble_eq_true rfl) dX4_pack_7 ⟨Nat.le_of_ble_eq_true rfl, Nat.le_of_ble_eq_true rfl⟩ rfl (fun H locs hP hD hS => ?_)
  refine lv_if_ne (tgt := 19) hx hb dX4_pack_10 (by decide) (fun c_10 => ?_) (fun c_10 => ?_)
  ·
    refine lv_iload_n hx hb dX4_pack_19 rfl (lv_at hl 2 rfl) ?_
    refine lv_iconst (v := 0) hx hb dX4_pack_20 (by decide) ?_
    refine lv_bipush (v := 60) hx hb dX4_pack_21 (by decide) ?_
    refine c0_S (As := [.int v, .int 0, .int 60]) (rest := []) ⟨hx, hb, hml, hown, hts⟩ (mX4_isIn l D cI cC cT cL v 0 60) (va_cwS 3 hts gX4_pack_X4_isIn rfl rfl rfl pX4_isIn ⟨Nat.le_of_ble_eq_true rfl, Nat.le_of_ble_eq_true rfl⟩) hK hP hD hS hA hST (Jn_nil _) rfl hl.1 rfl (Nat.le_of_ble_eq_true rfl) dX4_pack_23 ⟨Nat.le_of_ble_eq_true rfl, Nat.le_of_ble_eq_true rfl⟩ rfl (fun H locs hP hD hS => ?_)
    refine lv_if_eq (tgt := 39) hx hb dX4_pack_26 (by decide) (fun c_26 => ?_) (fun c_26 => ?_)
    ·
      refine lv_aload_n hx hb dX4_pack_39 rfl (lv_at hl 0 rfl) ?_
      refine lv_iconst (v := 2) hx hb dX4_pack_40 (by decide) ?_
      refine c0_V (As := [.int 2]) (rest := []) ⟨hx, hb, hml, hown, hts⟩ (mX4_no l D cI cC cT cL M 0 nc nt f k g 2) (cwV 1 hts gX4_pack_X4_no rfl rfl rfl pX4_no ⟨Nat.le_of_ble_eq_true rfl, Nat.le_of_ble_eq_true rfl⟩) hK hP hD hS hA hST (Jn_mw) 0 rfl rfl rfl rfl hl.1 rfl (Nat.le_of_ble_eq_true rfl) dX4_pack_41 ⟨Nat.le_of_ble_eq_true rfl, Nat.le_of_ble_eq_true rfl⟩ rfl (fun H locs hP hD hS => ?_)
      have hK9 : kPack nc f u v z = 2 := by rw [kPack, if_pos (inB_Rt (by omega) c_10), if_neg (inB_f c_26)]
      exact e0_i hx hb hr hlocks (P_eq (by (rw [hK9] <;> rfl)) hP) hS dX4_pack_44 (by decide) (by decide) (by (rw [hK9] <;> rfl))
    ·
      refine lv_iload_n hx hb dX4_pack_29 rfl (lv_at hl 3 rfl) ?_
      refine lv_iconst (v := 0) hx hb dX4_pack_30 (by decide) ?_
      refine lv_bipush (v := 60) hx hb dX4_pack_31 (by decide) ?_
      refine c0_S (As := [.int z, .int 0, .int 60]) (rest := []) ⟨hx, hb, hml, hown, hts⟩ (mX4_isIn l D cI cC cT cL z 0 60) (va_cwS 3 hts gX4_pack_X4_isIn rfl rfl rfl pX4_isIn ⟨Nat.le_of_ble_eq_true rfl, Nat.le_of_ble_eq_true rfl⟩) hK hP hD hS hA hST (Jn_nil _) rfl hl.1 rfl (Nat.le_of_ble_eq_true rfl) dX4_pack_33 ⟨Nat.le_of_ble_eq_true rfl, Nat.le_of_ble_eq_true rfl⟩ rfl (fun H locs hP hD hS => ?_)
      refine lv_if_ne (tgt := 45) hx hb dX4_pack_36 (by decide) (fun c_36 => ?_) (fun c_36 => ?_)
      ·
        refine lv_aload_n hx hb dX4_pack_45 rfl (lv_at hl 0 rfl) ?_
        refine w_get hx hb hts iX4_pack_X4 hown hK hP 0 rfl rfl 3 (by decide) fX4_pack_9 rfl rfl dX4_pack_46 ?_
        refine lv_iconst (v := 1) hx hb dX4_pack_49 (by decide) ?_
        refine w_ild hx hb hK hP 1 0 rfl rfl 1 rfl (by decide) (by decide) (v := f 1) rfl dX4_pack_50 ?_
        refine lv_iload_n hx hb dX4_pack_51 rfl (lv_at hl 2 rfl) ?_
        refine lv_icmp_lt (tgt := 65) hx hb dX4_pack_52 (by decide) (fun c_52 => ?_) (fun c_52 => ?_)
        ·
          refine lv_aload_n hx hb dX4_pack_65 rfl (lv_at hl 0 rfl) ?_
          refine lv_iconst (v := 3) hx hb dX4_pack_66 (by decide) ?_
          refine c0_V (As := [.int 3]) (rest := []) ⟨hx, hb, hml, hown, hts⟩ (mX4_no l D cI cC cT cL M 0 nc nt f k g 3) (cwV 1 hts gX4_pack_X4_no rfl rfl rfl pX4_no ⟨Nat.le_of_ble_eq_true rfl, Nat.le_of_ble_eq_true rfl⟩) hK hP hD hS hA hST (Jn_mw) 0 rfl rfl rfl rfl hl.1 rfl (Nat.le_of_ble_eq_true rfl) dX4_pack_67 ⟨Nat.le_of_ble_eq_true rfl, Nat.le_of_ble_eq_true rfl⟩ rfl (fun H locs hP hD hS => ?_)
          have hK9 : kPack nc f u v z = 3 := by rw [kPack, if_pos (inB_Rt (by omega) c_10), if_pos (inB_t c_26), if_pos (inB_t c_36), if_pos c_52]
          exact e0_i hx hb hr hlocks (P_eq (by (rw [hK9] <;> rfl)) hP) hS dX4_pack_70 (by decide) (by decide) (by (rw [hK9] <;> rfl))
        ·
          refine lv_aload_n hx hb dX4_pack_55 rfl (lv_at hl 0 rfl) ?_
          refine w_get hx hb hts iX4_pack_X4 hown hK hP 0 rfl rfl 3 (by decide) fX4_pack_9 rfl rfl dX4_pack_56 ?_
          refine lv_iconst (v := 2) hx hb dX4_pack_59 (by decide) ?_
          refine w_ild hx hb hK hP 1 0 rfl rfl 2 rfl (by decide) (by decide) (v := f 2) rfl dX4_pack_60 ?_
          refine lv_iload_n hx hb dX4_pack_61 rfl (lv_at hl 3 rfl) ?_
          refine lv_icmp_ge (tgt := 71) hx hb dX4_pack_62 (by decide) (fun c_62 => ?_) (fun c_62 => ?_)
          ·
            obtain ⟨i, hi, ei⟩ := inR_n (by omega) (inB_Rt (by omega) c_10)
            subst ei
            refine lv_aload_n hx hb dX4_pack_71 rfl (lv_at hl 0 rfl) ?_
            refine w_get hx hb hts iX4_pack_X4 hown hK hP 0 rfl rfl 3 (by decide) fX4_pack_9 rfl rfl dX4_pack_72 ?_
            refine lv_iconst (v := 1) hx hb dX4_pack_75 (by decide) ?_
            refine lv_dup2_11 hx hb dX4_pack_76 rfl rfl ?_
            refine w_ild hx hb hK hP 1 0 rfl rfl 1 rfl (by decide) (by decide) (v := f 1) rfl dX4_pack_77 ?_
            refine lv_iload_n hx hb dX4_pack_78 rfl (lv_at hl 2 rfl) ?_
            refine lv_isub hx hb dX4_pack_79 ?_
            refine w_ist hx hb hK hP hD hS 1 0 rfl rfl 1 rfl (by decide) (by decide) (ws' := MW cI M 0 nc nt (upd f 1 ((f 1) - v)) k g) rfl dX4_pack_80 (fun H locs hP hD hS => ?_)
            refine lv_aload_n hx hb dX4_pack_81 rfl (lv_at hl 0 rfl) ?_
            refine w_get hx hb hts iX4_pack_X4 hown hK hP 0 rfl rfl 3 (by decide) fX4_pack_9 rfl rfl dX4_pack_82 ?_
            refine lv_iconst (v := 2) hx hb dX4_pack_85 (by decide) ?_
            refine lv_dup2_11 hx hb dX4_pack_86 rfl rfl ?_
            refine w_ild hx hb hK hP 1 0 rfl rfl 2 rfl (by decide) (by decide) (v := (upd f 1 ((f 1) - v)) 2) rfl dX4_pack_87 ?_
            refine lv_iload_n hx hb dX4_pack_88 rfl (lv_at hl 3 rfl) ?_
            refine lv_isub hx hb dX4_pack_89 ?_
            refine w_ist hx hb hK hP hD hS 1 0 rfl rfl 2 rfl (by decide) (by decide) (ws' := MW cI M 0 nc nt (upd (upd f 1 ((f 1) - v)) 2 (((upd f 1 ((f 1) - v)) 2) - z)) k g) rfl dX4_pack_90 (fun H locs hP hD hS => ?_)
            refine lv_aload_n hx hb dX4_pack_91 rfl (lv_at hl 0 rfl) ?_
            refine lv_iload_n hx hb dX4_pack_92 rfl (lv_at hl 1 rfl) ?_
            refine lv_iconst (v := 0) hx hb dX4_pack_93 (by decide) ?_
            refine lv_aload_n hx hb dX4_pack_94 rfl (lv_at hl 0 rfl) ?_
            refine lv_iload_n hx hb dX4_pack_95 rfl (lv_at hl 1 rfl) ?_
            refine lv_iload_n hx hb dX4_pack_96 rfl (lv_at hl 2 rfl) ?_
            refine lv_iload_n hx hb dX4_pack_97 rfl (lv_at hl 3 rfl) ?_
            refine c0_V (As := [.int (nI i), .int v, .int z]) (rest := [.int 0, .int (nI i), .ref (M 0)]) ⟨hx, hb, hml, hown, hts⟩ (mX4_packed l D cI cC cT cL M 0 nc nt (upd (upd f 1 ((f 1) - v)) 2 (((upd f 1 ((f 1) - v)) 2) - z)) k g i (by omega) v z) (cwV 3 hts gX4_pack_X4_packed rfl rfl rfl pX4_packed ⟨Nat.le_of_ble_eq_true rfl, Nat.le_of_ble_eq_true rfl⟩) hK hP hD hS hA hST (Jn_mw) 0 rfl rfl rfl rfl hl.1 rfl (Nat.le_of_ble_eq_true rfl) dX4_pack_98 ⟨Nat.le_of_ble_eq_true rfl, Nat.le_of_ble_eq_true rfl⟩ rfl (fun H locs hP hD hS => ?_)
            refine c0_V (As := [.int (nI i), .int 0, .int (brine ((upd (upd f 1 ((f 1) - v)) 2 (((upd f 1 ((f 1) - v)) 2) - z)) (7 + 3 * i)) v z)]) (rest := []) ⟨hx, hb, hml, hown, hts⟩ (mX4_setChurn l D cI cC cT cL M 0 nc nt (upd (upd f 1 ((f 1) - v)) 2 (((upd f 1 ((f 1) - v)) 2) - z)) k g (nI i) 0 (brine ((upd (upd f 1 ((f 1) - v)) 2 (((upd f 1 ((f 1) - v)) 2) - z)) (7 + 3 * i)) v z) i 0 (7 + 3 * i) rfl rfl (by omega) (by omega)) (cwV 3 hts gX4_pack_X4_setChurn rfl rfl rfl pX4_setChurn ⟨Nat.le_of_ble_eq_true rfl, Nat.le_of_ble_eq_true rfl⟩) hK hP hD hS hA hST (Jn_mw) 0 rfl rfl rfl rfl hl.1 rfl (Nat.le_of_ble_eq_true rfl) dX4_pack_101 ⟨Nat.le_of_ble_eq_true rfl, Nat.le_of_ble_eq_true rfl⟩ rfl (fun H locs hP hD hS => ?_)
            refine lv_aload_n hx hb dX4_pack_104 rfl (lv_at hl 0 rfl) ?_
            refine lv_iload_n hx hb dX4_pack_105 rfl (lv_at hl 1 rfl) ?_
            refine lv_iconst (v := 0) hx hb dX4_pack_106 (by decide) ?_
            refine c0_V (As := [.int (nI i), .int 0]) (rest := []) ⟨hx, hb, hml, hown, hts⟩ (mX4_ch l D cI cC cT cL M 0 nc nt (upd (upd (upd f 1 ((f 1) - v)) 2 (((upd f 1 ((f 1) - v)) 2) - z)) (7 + 3 * i) (brine ((upd (upd f 1 ((f 1) - v)) 2 (((upd f 1 ((f 1) - v)) 2) - z)) (7 + 3 * i)) v z)) k g (nI i) 0 i 0 (7 + 3 * i) rfl rfl (by omega) (by omega)) (cwV 2 hts gX4_pack_X4_ch rfl rfl rfl pX4_ch ⟨Nat.le_of_ble_eq_true rfl, Nat.le_of_ble_eq_true rfl⟩) hK hP hD hS hA hST (Jn_mw) 0 rfl rfl rfl rfl hl.1 rfl (Nat.le_of_ble_eq_true rfl) dX4_pack_107 ⟨Nat.le_of_ble_eq_true rfl, Nat.le_of_ble_eq_true rfl⟩ rfl (fun H locs hP hD hS => ?_)
            have hK9 : kPack nc f (nI i) v z = 0 := by rw [kPack, if_pos (inB_Rt (by omega) c_10), if_pos (inB_t c_26), if_pos (inB_t c_36), if_neg c_52, if_neg (Int32.not_lt.mpr c_62)]
            exact e0_i hx hb hr hlocks (P_eq (by first | (rw [hK9, sel_0, nI_clamp (by omega), nI_clamp (by omega), nI_clamp (by omega), packm (f := f) (i := i) (a := f 1 - v) (b := upd f 1 (f 1 - v) 2 - z) (ice := v) (salt := z) rfl (by rw [up_o (by decide)])] <;> rfl) | (rw [hK9, sel_0, nI_clamp (by omega), nI_clamp (by omega), packm (f := f) (i := i) (a := f 1 - v) (b := upd f 1 (f 1 - v) 2 - z) (ice := v) (salt := z) rfl (by rw [up_o (by decide)])] <;> rfl) | (rw [hK9, sel_0, nI_clamp (by omega), packm (f := f) (i := i) (a := f 1 - v) (b := upd f 1 (f 1 - v) 2 - z) (ice := v) (salt := z) rfl (by rw [up_o (by decide)])] <;> rfl) | (rw [hK9, sel_0, packm (f := f) (i := i) (a := f 1 - v) (b := upd f 1 (f 1 - v) 2 - z) (ice := v) (salt := z) rfl (by rw [up_o (by decide)])] <;> rfl) | (rw [hK9, packm (f := f) (i := i) (a := f 1 - v) (b := upd f 1 (f 1 - v) 2 - z) (ice := v) (salt := z) rfl (by rw [up_o (by decide)])] <;> rfl)) hP) hS dX4_pack_110 (by decide) (by decide) (by first | (rw [hK9, sel_0, nI_clamp (by omega), nI_clamp (by omega), nI_clamp (by omega), packm (f := f) (i := i) (a := f 1 - v) (b := upd f 1 (f 1 - v) 2 - z) (ice := v) (salt := z) rfl (by rw [up_o (by decide)])] <;> rfl) | (rw [hK9, sel_0, nI_clamp (by omega), nI_clamp (by omega), packm (f := f) (i := i) (a := f 1 - v) (b := upd f 1 (f 1 - v) 2 - z) (ice := v) (salt := z) rfl (by rw [up_o (by decide)])] <;> rfl) | (rw [hK9, sel_0, nI_clamp (by omega), packm (f := f) (i := i) (a := f 1 - v) (b := upd f 1 (f 1 - v) 2 - z) (ice := v) (salt := z) rfl (by rw [up_o (by decide)])] <;> rfl) | (rw [hK9, sel_0, packm (f := f) (i := i) (a := f 1 - v) (b := upd f 1 (f 1 - v) 2 - z) (ice := v) (salt := z) rfl (by rw [up_o (by decide)])] <;> rfl) | (rw [hK9, packm (f := f) (i := i) (a := f 1 - v) (b := upd f 1 (f 1 - v) 2 - z) (ice := v) (salt := z) rfl (by rw [up_o (by decide)])] <;> rfl))
          ·
            refine lv_aload_n hx hb dX4_pack_65 rfl (lv_at hl 0 rfl) ?_
            refine lv_iconst (v := 3) hx hb dX4_pack_66 (by decide) ?_
            refine c0_V (As := [.int 3]) (rest := []) ⟨hx, hb, hml, hown, hts⟩ (mX4_no l D cI cC cT cL M 0 nc nt f k g 3) (cwV 1 hts gX4_pack_X4_no rfl rfl rfl pX4_no ⟨Nat.le_of_ble_eq_true rfl, Nat.le_of_ble_eq_true rfl⟩) hK hP hD hS hA hST (Jn_mw) 0 rfl rfl rfl rfl hl.1 rfl (Nat.le_of_ble_eq_true rfl) dX4_pack_67 ⟨Nat.le_of_ble_eq_true rfl, Nat.le_of_ble_eq_true rfl⟩ rfl (fun H locs hP hD hS => ?_)
            have hK9 : kPack nc f u v z = 3 := by rw [kPack, if_pos (inB_Rt (by omega) c_10), if_pos (inB_t c_26), if_pos (inB_t c_36), if_neg c_52, if_pos (Int32.not_le.mp c_62)]
            exact e0_i hx hb hr hlocks (P_eq (by (rw [hK9] <;> rfl)) hP) hS dX4_pack_70 (by decide) (by decide) (by (rw [hK9] <;> rfl))
      ·
        refine lv_aload_n hx hb dX4_pack_39 rfl (lv_at hl 0 rfl) ?_
        refine lv_iconst (v := 2) hx hb dX4_pack_40 (by decide) ?_
        refine c0_V (As := [.int 2]) (rest := []) ⟨hx, hb, hml, hown, hts⟩ (mX4_no l D cI cC cT cL M 0 nc nt f k g 2) (cwV 1 hts gX4_pack_X4_no rfl rfl rfl pX4_no ⟨Nat.le_of_ble_eq_true rfl, Nat.le_of_ble_eq_true rfl⟩) hK hP hD hS hA hST (Jn_mw) 0 rfl rfl rfl rfl hl.1 rfl (Nat.le_of_ble_eq_true rfl) dX4_pack_41 ⟨Nat.le_of_ble_eq_true rfl, Nat.le_of_ble_eq_true rfl⟩ rfl (fun H locs hP hD hS => ?_)
        have hK9 : kPack nc f u v z = 2 := by rw [kPack, if_pos (inB_Rt (by omega) c_10), if_pos (inB_t c_26), if_neg (inB_f c_36)]
        exact e0_i hx hb hr hlocks (P_eq (by (rw [hK9] <;> rfl)) hP) hS dX4_pack_44 (by decide) (by decide) (by (rw [hK9] <;> rfl))
  ·
    refine lv_aload_n hx hb dX4_pack_13 rfl (lv_at hl 0 rfl) ?_
    refine lv_iconst (v := 1) hx hb dX4_pack_14 (by decide) ?_
    refine c0_V (As := [.int 1]) (rest := []) ⟨hx, hb, hml, hown, hts⟩ (mX4_no l D cI cC cT cL M 0 nc nt f k g 1) (cwV 1 hts gX4_pack_X4_no rfl rfl rfl pX4_no ⟨Nat.le_of_ble_eq_true rfl, Nat.le_of_ble_eq_true rfl⟩) hK hP hD hS hA hST (Jn_mw) 0 rfl rfl rfl rfl hl.1 rfl (Nat.le_of_ble_eq_true rfl) dX4_pack_15 ⟨Nat.le_of_ble_eq_true rfl, Nat.le_of_ble_eq_true rfl⟩ rfl (fun H locs hP hD hS => ?_)
    have hK9 : kPack nc f u v z = 1 := by rw [kPack, if_neg (inB_Rf (by omega) c_10)]
    exact e0_i hx hb hr hlocks (P_eq (by (rw [hK9] <;> rfl)) hP) hS dX4_pack_18 (by decide) (by decide) (by (rw [hK9] <;> rfl))

set_option maxHeartbeats 4000000 in
set_option maxRecDepth 100000 in
theorem mX4_pour (l : Launch) (D : va_G) (cI cC cT cL : ClassId) (M : Nat → Nat) (th : Int32) (nc nt : Nat) (f k g : Nat → Int32) (u v : Int32) (hnc : nc ≤ 4) (hI : Inv f) : M0 l yX4_pour wsX4_pour ({ frames := 2, cells := 0, slots := 0, locals := 43 } : Room) D (TY cI cC cT cL) [.ref (M 0), .int u, .int v] (MW cI M th nc nt f k g) (some (.int (sel (kPour nc f u v) (pourF f u.toNatClampNeg v (9 + 3 * u.toNatClampNeg)) 0))) (MW cI M (nI (kPour nc f u v)) nc nt (sel (kPour nc f u v) (pourF f u.toNatClampNeg v) f) k g) 0 0 := by
  refine M0_of (cc := cX4_pour) (maxL := 4) (ret := (some .int)) (by decide +kernel) rfl (Nat.le_of_ble_eq_true rfl) ?_
  intro p e s m args below meth c A0 B ls hl
  obtain ⟨hx, hb, hml, hr, hown, hts, hlocks, hK, hP, hD, hA, hST, hnm⟩ := B
  have hown : s.vm.findClass RX4 = some m.cls := hown
  have hS : va_S A0 s.heap s.heap [] := va_S.rf
  have hl : lv_has ls 4 [(0, .ref (M 0)), (1, .int u), (2, .int v)] := hl
  refine lv_aload_n hx hb dX4_pour_0 rfl (lv_at hl 0 rfl) ?_
  refine lv_iconst (v := 0) hx hb dX4_pour_1 (by decide) ?_
  refine w_put (C := RX4) hx hb hts iX4_pour_X4 tyX4_ok nmX4 hown hK hP hD hS 0 rfl rfl 0 (by decide) fX4_pour_19 rfl rfl rfl rfl (Nat.le_of_ble_eq_true rfl) (ws' := MW cI M 0 nc nt f k g) rfl dX4_pour_2 (fun H locs hP hD hS => ?_)
  refine lv_aload_n hx hb dX4_pour_5 rfl (lv_at hl 0 rfl) ?_
  refine lv_iload_n hx hb dX4_pour_6 rfl (lv_at hl 1 rfl) ?_
  refine c0_V (As := [.int u]) (rest := []) ⟨hx, hb, hml, hown, hts⟩ (mX4_isChurn l D cI cC cT cL M 0 nc nt f k g u) (cwV 1 hts gX4_pour_X4_isChurn rfl rfl rfl pX4_isChurn ⟨Nat.le_of_ble_eq_true rfl, Nat.le_of_ble_eq_true rfl⟩) hK hP hD hS hA hST (Jn_mw) 0 rfl rfl rfl rfl hl.1 rfl (Nat.le_of_ble_eq_true rfl) dX4_pour_7 ⟨Nat.le_of_ble_eq_true rfl, Nat.le_of_ble_eq_true rfl⟩ rfl (fun H locs hP hD hS => ?_)
  refine lv_if_ne (tgt := 19) hx hb dX4_pour_10 (by decide) (fun c_10 => ?_) (fun c_10 => ?_)
  ·
    refine lv_iload_n hx hb dX4_pour_19 rfl (lv_at hl 2 rfl) ?_
    refine lv_iconst (v := 1) hx hb dX4_pour_20 (by decide) ?_
    refine lv_bipush (v := 20) hx hb dX4_pour_21 (by decide) ?_
    refine c0_S (As := [.int v, .int 1, .int 20]) (rest := []) ⟨hx, hb, hml, hown, hts⟩ (mX4_isIn l D cI cC cT cL v 1 20) (va_cwS 3 hts gX4_pour_X4_isIn rfl rfl rfl pX4_isIn ⟨Nat.le_of_ble_eq_true rfl, Nat.le_of_ble_eq_true rfl⟩) hK hP hD hS hA hST (Jn_nil _) rfl hl.1 rfl (Nat.le_of_ble_eq_true rfl) dX4_pour_23 ⟨Nat.le_of_ble_eq_true rfl, Nat.le_of_ble_eq_true rfl⟩ rfl (fun H locs hP hD hS => ?_)
    refine lv_if_ne (tgt := 35) hx hb dX4_pour_26 (by decide) (fun c_26 => ?_) (fun c_26 => ?_)
    ·
      obtain ⟨i, hi, ei⟩ := inR_n (by omega) (inB_Rt (by omega) c_10)
      subst ei
      refine lv_aload_n hx hb dX4_pour_35 rfl (lv_at hl 0 rfl) ?_
      refine lv_iload_n hx hb dX4_pour_36 rfl (lv_at hl 1 rfl) ?_
      refine lv_iconst (v := 1) hx hb dX4_pour_37 (by decide) ?_
      refine c0_V (As := [.int (nI i), .int 1]) (rest := []) ⟨hx, hb, hml, hown, hts⟩ (mX4_ch l D cI cC cT cL M 0 nc nt f k g (nI i) 1 i 1 (8 + 3 * i) rfl rfl (by omega) (by omega)) (cwV 2 hts gX4_pour_X4_ch rfl rfl rfl pX4_ch ⟨Nat.le_of_ble_eq_true rfl, Nat.le_of_ble_eq_true rfl⟩) hK hP hD hS hA hST (Jn_mw) 0 rfl rfl rfl rfl hl.1 rfl (Nat.le_of_ble_eq_true rfl) dX4_pour_38 ⟨Nat.le_of_ble_eq_true rfl, Nat.le_of_ble_eq_true rfl⟩ rfl (fun H locs hP hD hS => ?_)
      refine lv_istore_n (lv' := [(3, .int (f (8 + 3 * i))), (0, .ref (M 0)), (1, .int (nI i)), (2, .int v)]) hx hb dX4_pour_41 rfl hl (by decide) rfl (fun ls hl => ?_)
      refine lv_aload_n hx hb dX4_pour_42 rfl (lv_at hl 1 rfl) ?_
      refine w_get hx hb hts iX4_pour_X4 hown hK hP 0 rfl rfl 3 (by decide) fX4_pour_9 rfl rfl dX4_pour_43 ?_
      refine lv_iconst (v := 3) hx hb dX4_pour_46 (by decide) ?_
      refine w_ild hx hb hK hP 1 0 rfl rfl 3 rfl (by decide) (by decide) (v := f 3) rfl dX4_pour_47 ?_
      refine lv_iload_n hx hb dX4_pour_48 rfl (lv_at hl 3 rfl) ?_
      refine lv_icmp_lt (tgt := 60) hx hb dX4_pour_49 (by decide) (fun c_49 => ?_) (fun c_49 => ?_)
      ·
        refine lv_aload_n hx hb dX4_pour_60 rfl (lv_at hl 1 rfl) ?_
        refine lv_iconst (v := 3) hx hb dX4_pour_61 (by decide) ?_
        refine c0_V (As := [.int 3]) (rest := []) ⟨hx, hb, hml, hown, hts⟩ (mX4_no l D cI cC cT cL M 0 nc nt f k g 3) (cwV 1 hts gX4_pour_X4_no rfl rfl rfl pX4_no ⟨Nat.le_of_ble_eq_true rfl, Nat.le_of_ble_eq_true rfl⟩) hK hP hD hS hA hST (Jn_mw) 0 rfl rfl rfl rfl hl.1 rfl (Nat.le_of_ble_eq_true rfl) dX4_pour_62 ⟨Nat.le_of_ble_eq_true rfl, Nat.le_of_ble_eq_true rfl⟩ rfl (fun H locs hP hD hS => ?_)
        have hK9 : kPour nc f (nI i) v = 3 := by rw [kPour, nI_clamp (by omega), if_pos (inB_Rt (by omega) c_10), if_pos (inB_t c_26), if_pos c_49]
        exact e0_i hx hb hr hlocks (P_eq (by (rw [hK9] <;> rfl)) hP) hS dX4_pour_65 (by decide) (by decide) (by (rw [hK9] <;> rfl))
      ·
        refine lv_iload_n hx hb dX4_pour_52 rfl (lv_at hl 0 rfl) ?_
        refine lv_iload_n hx hb dX4_pour_53 rfl (lv_at hl 3 rfl) ?_
        refine lv_iadd hx hb dX4_pour_54 ?_
        refine lv_bipush (v := 20) hx hb dX4_pour_55 (by decide) ?_
        refine lv_icmp_le (tgt := 66) hx hb dX4_pour_57 (by decide) (fun c_57 => ?_) (fun c_57 => ?_)
        ·
          refine lv_aload_n hx hb dX4_pour_66 rfl (lv_at hl 1 rfl) ?_
          refine w_get hx hb hts iX4_pour_X4 hown hK hP 0 rfl rfl 3 (by decide) fX4_pour_9 rfl rfl dX4_pour_67 ?_
          refine lv_iconst (v := 3) hx hb dX4_pour_70 (by decide) ?_
          refine lv_dup2_11 hx hb dX4_pour_71 rfl rfl ?_
          refine w_ild hx hb hK hP 1 0 rfl rfl 3 rfl (by decide) (by decide) (v := f 3) rfl dX4_pour_72 ?_
          refine lv_iload_n hx hb dX4_pour_73 rfl (lv_at hl 3 rfl) ?_
          refine lv_isub hx hb dX4_pour_74 ?_
          refine w_ist hx hb hK hP hD hS 1 0 rfl rfl 3 rfl (by decide) (by decide) (ws' := MW cI M 0 nc nt (upd f 3 ((f 3) - v)) k g) rfl dX4_pour_75 (fun H locs hP hD hS => ?_)
          refine lv_aload_n hx hb dX4_pour_76 rfl (lv_at hl 1 rfl) ?_
          refine lv_iload_n hx hb dX4_pour_77 rfl (lv_at hl 2 rfl) ?_
          refine lv_iconst (v := 2) hx hb dX4_pour_78 (by decide) ?_
          refine lv_aload_n hx hb dX4_pour_79 rfl (lv_at hl 1 rfl) ?_
          refine lv_iload_n hx hb dX4_pour_80 rfl (lv_at hl 2 rfl) ?_
          refine lv_iconst (v := 2) hx hb dX4_pour_81 (by decide) ?_
          refine c0_V (As := [.int (nI i), .int 2]) (rest := [.int 2, .int (nI i), .ref (M 0)]) ⟨hx, hb, hml, hown, hts⟩ (mX4_ch l D cI cC cT cL M 0 nc nt (upd f 3 ((f 3) - v)) k g (nI i) 2 i 2 (9 + 3 * i) rfl rfl (by omega) (by omega)) (cwV 2 hts gX4_pour_X4_ch rfl rfl rfl pX4_ch ⟨Nat.le_of_ble_eq_true rfl, Nat.le_of_ble_eq_true rfl⟩) hK hP hD hS hA hST (Jn_mw) 0 rfl rfl rfl rfl hl.1 rfl (Nat.le_of_ble_eq_true rfl) dX4_pour_82 ⟨Nat.le_of_ble_eq_true rfl, Nat.le_of_ble_eq_true rfl⟩ rfl (fun H locs hP hD hS => ?_)
          refine lv_iload_n hx hb dX4_pour_85 rfl (lv_at hl 0 rfl) ?_
          refine lv_imul hx hb dX4_pour_86 ?_
          refine lv_iload_n hx hb dX4_pour_87 rfl (lv_at hl 0 rfl) ?_
          refine lv_iload_n hx hb dX4_pour_88 rfl (lv_at hl 3 rfl) ?_
          refine lv_iadd hx hb dX4_pour_89 ?_
          refine lv_idiv hx hb dX4_pour_90 (ne_hv (hI.2.1 i (by omega)).2.1 (inB_t c_26)) ?_
          refine c0_V (As := [.int (nI i), .int 2, .int ((((upd f 3 ((f 3) - v)) (9 + 3 * i)) * (f (8 + 3 * i))) / ((f (8 + 3 * i)) + v))]) (rest := []) ⟨hx, hb, hml, hown, hts⟩ (mX4_setChurn l D cI cC cT cL M 0 nc nt (upd f 3 ((f 3) - v)) k g (nI i) 2 ((((upd f 3 ((f 3) - v)) (9 + 3 * i)) * (f (8 + 3 * i))) / ((f (8 + 3 * i)) + v)) i 2 (9 + 3 * i) rfl rfl (by omega) (by omega)) (cwV 3 hts gX4_pour_X4_setChurn rfl rfl rfl pX4_setChurn ⟨Nat.le_of_ble_eq_true rfl, Nat.le_of_ble_eq_true rfl⟩) hK hP hD hS hA hST (Jn_mw) 0 rfl rfl rfl rfl hl.1 rfl (Nat.le_of_ble_eq_true rfl) dX4_pour_91 ⟨Nat.le_of_ble_eq_true rfl, Nat.le_of_ble_eq_true rfl⟩ rfl (fun H locs hP hD hS => ?_)
          refine lv_aload_n hx hb dX4_pour_94 rfl (lv_at hl 1 rfl) ?_
          refine lv_iload_n hx hb dX4_pour_95 rfl (lv_at hl 2 rfl) ?_
          refine lv_iconst (v := 1) hx hb dX4_pour_96 (by decide) ?_
          refine lv_iload_n hx hb dX4_pour_97 rfl (lv_at hl 0 rfl) ?_
          refine lv_iload_n hx hb dX4_pour_98 rfl (lv_at hl 3 rfl) ?_
          refine lv_iadd hx hb dX4_pour_99 ?_
          refine c0_V (As := [.int (nI i), .int 1, .int ((f (8 + 3 * i)) + v)]) (rest := []) ⟨hx, hb, hml, hown, hts⟩ (mX4_setChurn l D cI cC cT cL M 0 nc nt (upd (upd f 3 ((f 3) - v)) (9 + 3 * i) ((((upd f 3 ((f 3) - v)) (9 + 3 * i)) * (f (8 + 3 * i))) / ((f (8 + 3 * i)) + v))) k g (nI i) 1 ((f (8 + 3 * i)) + v) i 1 (8 + 3 * i) rfl rfl (by omega) (by omega)) (cwV 3 hts gX4_pour_X4_setChurn rfl rfl rfl pX4_setChurn ⟨Nat.le_of_ble_eq_true rfl, Nat.le_of_ble_eq_true rfl⟩) hK hP hD hS hA hST (Jn_mw) 0 rfl rfl rfl rfl hl.1 rfl (Nat.le_of_ble_eq_true rfl) dX4_pour_100 ⟨Nat.le_of_ble_eq_true rfl, Nat.le_of_ble_eq_true rfl⟩ rfl (fun H locs hP hD hS => ?_)
          refine lv_aload_n hx hb dX4_pour_103 rfl (lv_at hl 1 rfl) ?_
          refine lv_iload_n hx hb dX4_pour_104 rfl (lv_at hl 2 rfl) ?_
          refine lv_iconst (v := 2) hx hb dX4_pour_105 (by decide) ?_
          refine c0_V (As := [.int (nI i), .int 2]) (rest := []) ⟨hx, hb, hml, hown, hts⟩ (mX4_ch l D cI cC cT cL M 0 nc nt (upd (upd (upd f 3 ((f 3) - v)) (9 + 3 * i) ((((upd f 3 ((f 3) - v)) (9 + 3 * i)) * (f (8 + 3 * i))) / ((f (8 + 3 * i)) + v))) (8 + 3 * i) ((f (8 + 3 * i)) + v)) k g (nI i) 2 i 2 (9 + 3 * i) rfl rfl (by omega) (by omega)) (cwV 2 hts gX4_pour_X4_ch rfl rfl rfl pX4_ch ⟨Nat.le_of_ble_eq_true rfl, Nat.le_of_ble_eq_true rfl⟩) hK hP hD hS hA hST (Jn_mw) 0 rfl rfl rfl rfl hl.1 rfl (Nat.le_of_ble_eq_true rfl) dX4_pour_106 ⟨Nat.le_of_ble_eq_true rfl, Nat.le_of_ble_eq_true rfl⟩ rfl (fun H locs hP hD hS => ?_)
          have hK9 : kPour nc f (nI i) v = 0 := by rw [kPour, nI_clamp (by omega), if_pos (inB_Rt (by omega) c_10), if_pos (inB_t c_26), if_neg c_49, if_neg (Int32.not_lt.mpr c_57)]
          exact e0_i hx hb hr hlocks (P_eq (by first | (rw [hK9, sel_0, nI_clamp (by omega), nI_clamp (by omega), nI_clamp (by omega), pourm (ne_hv (hI.2.1 i (by omega)).2.1 (inB_t c_26))] <;> rfl) | (rw [hK9, sel_0, nI_clamp (by omega), nI_clamp (by omega), pourm (ne_hv (hI.2.1 i (by omega)).2.1 (inB_t c_26))] <;> rfl) | (rw [hK9, sel_0, nI_clamp (by omega), pourm (ne_hv (hI.2.1 i (by omega)).2.1 (inB_t c_26))] <;> rfl) | (rw [hK9, sel_0, pourm (ne_hv (hI.2.1 i (by omega)).2.1 (inB_t c_26))] <;> rfl) | (rw [hK9, pourm (ne_hv (hI.2.1 i (by omega)).2.1 (inB_t c_26))] <;> rfl)) hP) hS dX4_pour_109 (by decide) (by decide) (by first | (rw [hK9, sel_0, nI_clamp (by omega), nI_clamp (by omega), nI_clamp (by omega), pourm (ne_hv (hI.2.1 i (by omega)).2.1 (inB_t c_26))] <;> rfl) | (rw [hK9, sel_0, nI_clamp (by omega), nI_clamp (by omega), pourm (ne_hv (hI.2.1 i (by omega)).2.1 (inB_t c_26))] <;> rfl) | (rw [hK9, sel_0, nI_clamp (by omega), pourm (ne_hv (hI.2.1 i (by omega)).2.1 (inB_t c_26))] <;> rfl) | (rw [hK9, sel_0, pourm (ne_hv (hI.2.1 i (by omega)).2.1 (inB_t c_26))] <;> rfl) | (rw [hK9, pourm (ne_hv (hI.2.1 i (by omega)).2.1 (inB_t c_26))] <;> rfl))
        ·
          refine lv_aload_n hx hb dX4_pour_60 rfl (lv_at hl 1 rfl) ?_
          refine lv_iconst (v := 3) hx hb dX4_pour_61 (by decide) ?_
          refine c0_V (As := [.int 3]) (rest := []) ⟨hx, hb, hml, hown, hts⟩ (mX4_no l D cI cC cT cL M 0 nc nt f k g 3) (cwV 1 hts gX4_pour_X4_no rfl rfl rfl pX4_no ⟨Nat.le_of_ble_eq_true rfl, Nat.le_of_ble_eq_true rfl⟩) hK hP hD hS hA hST (Jn_mw) 0 rfl rfl rfl rfl hl.1 rfl (Nat.le_of_ble_eq_true rfl) dX4_pour_62 ⟨Nat.le_of_ble_eq_true rfl, Nat.le_of_ble_eq_true rfl⟩ rfl (fun H locs hP hD hS => ?_)
          have hK9 : kPour nc f (nI i) v = 3 := by rw [kPour, nI_clamp (by omega), if_pos (inB_Rt (by omega) c_10), if_pos (inB_t c_26), if_neg c_49, if_pos (Int32.not_le.mp c_57)]
          exact e0_i hx hb hr hlocks (P_eq (by (rw [hK9] <;> rfl)) hP) hS dX4_pour_65 (by decide) (by decide) (by (rw [hK9] <;> rfl))
    ·
      refine lv_aload_n hx hb dX4_pour_29 rfl (lv_at hl 0 rfl) ?_
      refine lv_iconst (v := 2) hx hb dX4_pour_30 (by decide) ?_
      refine c0_V (As := [.int 2]) (rest := []) ⟨hx, hb, hml, hown, hts⟩ (mX4_no l D cI cC cT cL M 0 nc nt f k g 2) (cwV 1 hts gX4_pour_X4_no rfl rfl rfl pX4_no ⟨Nat.le_of_ble_eq_true rfl, Nat.le_of_ble_eq_true rfl⟩) hK hP hD hS hA hST (Jn_mw) 0 rfl rfl rfl rfl hl.1 rfl (Nat.le_of_ble_eq_true rfl) dX4_pour_31 ⟨Nat.le_of_ble_eq_true rfl, Nat.le_of_ble_eq_true rfl⟩ rfl (fun H locs hP hD hS => ?_)
      have hK9 : kPour nc f u v = 2 := by rw [kPour, if_pos (inB_Rt (by omega) c_10), if_neg (inB_f c_26)]
      exact e0_i hx hb hr hlocks (P_eq (by (rw [hK9] <;> rfl)) hP) hS dX4_pour_34 (by decide) (by decide) (by (rw [hK9] <;> rfl))
  ·
    refine lv_aload_n hx hb dX4_pour_13 rfl (lv_at hl 0 rfl) ?_
    refine lv_iconst (v := 1) hx hb dX4_pour_14 (by decide) ?_
    refine c0_V (As := [.int 1]) (rest := []) ⟨hx, hb, hml, hown, hts⟩ (mX4_no l D cI cC cT cL M 0 nc nt f k g 1) (cwV 1 hts gX4_pour_X4_no rfl rfl rfl pX4_no ⟨Nat.le_of_ble_eq_true rfl, Nat.le_of_ble_eq_true rfl⟩) hK hP hD hS hA hST (Jn_mw) 0 rfl rfl rfl rfl hl.1 rfl (Nat.le_of_ble_eq_true rfl) dX4_pour_15 ⟨Nat.le_of_ble_eq_true rfl, Nat.le_of_ble_eq_true rfl⟩ rfl (fun H locs hP hD hS => ?_)
    have hK9 : kPour nc f u v = 1 := by rw [kPour, if_neg (inB_Rf (by omega) c_10)]
    exact e0_i hx hb hr hlocks (P_eq (by (rw [hK9] <;> rfl)) hP) hS dX4_pour_18 (by decide) (by decide) (by (rw [hK9] <;> rfl))

set_option maxHeartbeats 4000000 in
set_option maxRecDepth 100000 in
theorem mX4_scoop (l : Launch) (D : va_G) (cI cC cT cL : ClassId) (M : Nat → Nat) (th : Int32) (nc nt : Nat) (f k g : Nat → Int32) (u v : Int32) (hnc : nc ≤ 4) (hnt : nt ≤ 6) : M0 l yX4_scoop wsX4_scoop ({ frames := 2, cells := 0, slots := 0, locals := 43 } : Room) D (TY cI cC cT cL) [.ref (M 0), .int u, .int v] (MW cI M th nc nt f k g) (some (.int (sel (kScoop nc nt f u v) (scoopF f u.toNatClampNeg v.toNatClampNeg (19 + 3 * v.toNatClampNeg)) 0))) (MW cI M (nI (kScoop nc nt f u v)) nc nt (sel (kScoop nc nt f u v) (scoopF f u.toNatClampNeg v.toNatClampNeg) f) k g) 0 0 := by
  refine M0_of (cc := cX4_scoop) (maxL := 3) (ret := (some .int)) (by decide +kernel) rfl (Nat.le_of_ble_eq_true rfl) ?_
  intro p e s m args below meth c A0 B ls hl
  obtain ⟨hx, hb, hml, hr, hown, hts, hlocks, hK, hP, hD, hA, hST, hnm⟩ := B
  have hown : s.vm.findClass RX4 = some m.cls := hown
  have hS : va_S A0 s.heap s.heap [] := va_S.rf
  have hl : lv_has ls 3 [(0, .ref (M 0)), (1, .int u), (2, .int v)] := hl
  refine lv_aload_n hx hb dX4_scoop_0 rfl (lv_at hl 0 rfl) ?_
  refine lv_iconst (v := 0) hx hb dX4_scoop_1 (by decide) ?_
  refine w_put (C := RX4) hx hb hts iX4_scoop_X4 tyX4_ok nmX4 hown hK hP hD hS 0 rfl rfl 0 (by decide) fX4_scoop_19 rfl rfl rfl rfl (Nat.le_of_ble_eq_true rfl) (ws' := MW cI M 0 nc nt f k g) rfl dX4_scoop_2 (fun H locs hP hD hS => ?_)
  refine lv_aload_n hx hb dX4_scoop_5 rfl (lv_at hl 0 rfl) ?_
  refine lv_iload_n hx hb dX4_scoop_6 rfl (lv_at hl 1 rfl) ?_
  refine c0_V (As := [.int u]) (rest := []) ⟨hx, hb, hml, hown, hts⟩ (mX4_isChurn l D cI cC cT cL M 0 nc nt f k g u) (cwV 1 hts gX4_scoop_X4_isChurn rfl rfl rfl pX4_isChurn ⟨Nat.le_of_ble_eq_true rfl, Nat.le_of_ble_eq_true rfl⟩) hK hP hD hS hA hST (Jn_mw) 0 rfl rfl rfl rfl hl.1 rfl (Nat.le_of_ble_eq_true rfl) dX4_scoop_7 ⟨Nat.le_of_ble_eq_true rfl, Nat.le_of_ble_eq_true rfl⟩ rfl (fun H locs hP hD hS => ?_)
  refine lv_if_eq (tgt := 21) hx hb dX4_scoop_10 (by decide) (fun c_10 => ?_) (fun c_10 => ?_)
  ·
    refine lv_aload_n hx hb dX4_scoop_21 rfl (lv_at hl 0 rfl) ?_
    refine lv_iconst (v := 1) hx hb dX4_scoop_22 (by decide) ?_
    refine c0_V (As := [.int 1]) (rest := []) ⟨hx, hb, hml, hown, hts⟩ (mX4_no l D cI cC cT cL M 0 nc nt f k g 1) (cwV 1 hts gX4_scoop_X4_no rfl rfl rfl pX4_no ⟨Nat.le_of_ble_eq_true rfl, Nat.le_of_ble_eq_true rfl⟩) hK hP hD hS hA hST (Jn_mw) 0 rfl rfl rfl rfl hl.1 rfl (Nat.le_of_ble_eq_true rfl) dX4_scoop_23 ⟨Nat.le_of_ble_eq_true rfl, Nat.le_of_ble_eq_true rfl⟩ rfl (fun H locs hP hD hS => ?_)
    have hK9 : kScoop nc nt f u v = 1 := by rw [kScoop, if_neg (inB_Rf (by omega) c_10)]
    exact e0_i hx hb hr hlocks (P_eq (by (rw [hK9] <;> rfl)) hP) hS dX4_scoop_26 (by decide) (by decide) (by (rw [hK9] <;> rfl))
  ·
    refine lv_aload_n hx hb dX4_scoop_13 rfl (lv_at hl 0 rfl) ?_
    refine lv_iload_n hx hb dX4_scoop_14 rfl (lv_at hl 2 rfl) ?_
    refine c0_V (As := [.int v]) (rest := []) ⟨hx, hb, hml, hown, hts⟩ (mX4_isTub l D cI cC cT cL M 0 nc nt f k g v) (cwV 1 hts gX4_scoop_X4_isTub rfl rfl rfl pX4_isTub ⟨Nat.le_of_ble_eq_true rfl, Nat.le_of_ble_eq_true rfl⟩) hK hP hD hS hA hST (Jn_mw) 0 rfl rfl rfl rfl hl.1 rfl (Nat.le_of_ble_eq_true rfl) dX4_scoop_15 ⟨Nat.le_of_ble_eq_true rfl, Nat.le_of_ble_eq_true rfl⟩ rfl (fun H locs hP hD hS => ?_)
    refine lv_if_ne (tgt := 27) hx hb dX4_scoop_18 (by decide) (fun c_18 => ?_) (fun c_18 => ?_)
    ·
      obtain ⟨i, hi, ei⟩ := inR_n (by omega) (inB_Rt (by omega) c_10)
      subst ei
      obtain ⟨t, ht, et⟩ := inR_n (by omega) (inB_Rt (by omega) c_18)
      subst et
      refine lv_aload_n hx hb dX4_scoop_27 rfl (lv_at hl 0 rfl) ?_
      refine lv_iload_n hx hb dX4_scoop_28 rfl (lv_at hl 1 rfl) ?_
      refine lv_iconst (v := 1) hx hb dX4_scoop_29 (by decide) ?_
      refine c0_V (As := [.int (nI i), .int 1]) (rest := []) ⟨hx, hb, hml, hown, hts⟩ (mX4_ch l D cI cC cT cL M 0 nc nt f k g (nI i) 1 i 1 (8 + 3 * i) rfl rfl (by omega) (by omega)) (cwV 2 hts gX4_scoop_X4_ch rfl rfl rfl pX4_ch ⟨Nat.le_of_ble_eq_true rfl, Nat.le_of_ble_eq_true rfl⟩) hK hP hD hS hA hST (Jn_mw) 0 rfl rfl rfl rfl hl.1 rfl (Nat.le_of_ble_eq_true rfl) dX4_scoop_30 ⟨Nat.le_of_ble_eq_true rfl, Nat.le_of_ble_eq_true rfl⟩ rfl (fun H locs hP hD hS => ?_)
      refine lv_if_eq (tgt := 47) hx hb dX4_scoop_33 (by decide) (fun c_33 => ?_) (fun c_33 => ?_)
      ·
        refine lv_aload_n hx hb dX4_scoop_47 rfl (lv_at hl 0 rfl) ?_
        refine lv_iconst (v := 2) hx hb dX4_scoop_48 (by decide) ?_
        refine c0_V (As := [.int 2]) (rest := []) ⟨hx, hb, hml, hown, hts⟩ (mX4_no l D cI cC cT cL M 0 nc nt f k g 2) (cwV 1 hts gX4_scoop_X4_no rfl rfl rfl pX4_no ⟨Nat.le_of_ble_eq_true rfl, Nat.le_of_ble_eq_true rfl⟩) hK hP hD hS hA hST (Jn_mw) 0 rfl rfl rfl rfl hl.1 rfl (Nat.le_of_ble_eq_true rfl) dX4_scoop_49 ⟨Nat.le_of_ble_eq_true rfl, Nat.le_of_ble_eq_true rfl⟩ rfl (fun H locs hP hD hS => ?_)
        have hK9 : kScoop nc nt f (nI i) (nI t) = 2 := by rw [kScoop, nI_clamp (by omega), if_pos (inB_Rt (by omega) c_10), if_pos (inB_Rt (by omega) c_18), if_pos c_33]
        exact e0_i hx hb hr hlocks (P_eq (by (rw [hK9] <;> rfl)) hP) hS dX4_scoop_52 (by decide) (by decide) (by (rw [hK9] <;> rfl))
      ·
        refine lv_aload_n hx hb dX4_scoop_36 rfl (lv_at hl 0 rfl) ?_
        refine lv_iload_n hx hb dX4_scoop_37 rfl (lv_at hl 1 rfl) ?_
        refine lv_iconst (v := 2) hx hb dX4_scoop_38 (by decide) ?_
        refine c0_V (As := [.int (nI i), .int 2]) (rest := []) ⟨hx, hb, hml, hown, hts⟩ (mX4_ch l D cI cC cT cL M 0 nc nt f k g (nI i) 2 i 2 (9 + 3 * i) rfl rfl (by omega) (by omega)) (cwV 2 hts gX4_scoop_X4_ch rfl rfl rfl pX4_ch ⟨Nat.le_of_ble_eq_true rfl, Nat.le_of_ble_eq_true rfl⟩) hK hP hD hS hA hST (Jn_mw) 0 rfl rfl rfl rfl hl.1 rfl (Nat.le_of_ble_eq_true rfl) dX4_scoop_39 ⟨Nat.le_of_ble_eq_true rfl, Nat.le_of_ble_eq_true rfl⟩ rfl (fun H locs hP hD hS => ?_)
        refine lv_bipush (v := 50) hx hb dX4_scoop_42 (by decide) ?_
        refine lv_icmp_ge (tgt := 53) hx hb dX4_scoop_44 (by decide) (fun c_44 => ?_) (fun c_44 => ?_)
        ·
          refine lv_aload_n hx hb dX4_scoop_53 rfl (lv_at hl 0 rfl) ?_
          refine lv_iload_n hx hb dX4_scoop_54 rfl (lv_at hl 2 rfl) ?_
          refine lv_iconst (v := 0) hx hb dX4_scoop_55 (by decide) ?_
          refine lv_bipush (v := 60) hx hb dX4_scoop_56 (by decide) ?_
          refine lv_aload_n hx hb dX4_scoop_58 rfl (lv_at hl 0 rfl) ?_
          refine lv_iload_n hx hb dX4_scoop_59 rfl (lv_at hl 2 rfl) ?_
          refine lv_iconst (v := 0) hx hb dX4_scoop_60 (by decide) ?_
          refine c0_V (As := [.int (nI t), .int 0]) (rest := [.int 60, .int 0, .int (nI t), .ref (M 0)]) ⟨hx, hb, hml, hown, hts⟩ (mX4_tu l D cI cC cT cL M 0 nc nt f k g (nI t) 0 t 0 (19 + 3 * t) rfl rfl (by omega) (by omega)) (cwV 2 hts gX4_scoop_X4_tu rfl rfl rfl pX4_tu ⟨Nat.le_of_ble_eq_true rfl, Nat.le_of_ble_eq_true rfl⟩) hK hP hD hS hA hST (Jn_mw) 0 rfl rfl rfl rfl hl.1 rfl (Nat.le_of_ble_eq_true rfl) dX4_scoop_61 ⟨Nat.le_of_ble_eq_true rfl, Nat.le_of_ble_eq_true rfl⟩ rfl (fun H locs hP hD hS => ?_)
          refine lv_iconst (v := 2) hx hb dX4_scoop_64 (by decide) ?_
          refine lv_aload_n hx hb dX4_scoop_65 rfl (lv_at hl 0 rfl) ?_
          refine lv_iload_n hx hb dX4_scoop_66 rfl (lv_at hl 1 rfl) ?_
          refine lv_iconst (v := 1) hx hb dX4_scoop_67 (by decide) ?_
          refine c0_V (As := [.int (nI i), .int 1]) (rest := [.int 2, .int (f (19 + 3 * t)), .int 60, .int 0, .int (nI t), .ref (M 0)]) ⟨hx, hb, hml, hown, hts⟩ (mX4_ch l D cI cC cT cL M 0 nc nt f k g (nI i) 1 i 1 (8 + 3 * i) rfl rfl (by omega) (by omega)) (cwV 2 hts gX4_scoop_X4_ch rfl rfl rfl pX4_ch ⟨Nat.le_of_ble_eq_true rfl, Nat.le_of_ble_eq_true rfl⟩) hK hP hD hS hA hST (Jn_mw) 0 rfl rfl rfl rfl hl.1 rfl (Nat.le_of_ble_eq_true rfl) dX4_scoop_68 ⟨Nat.le_of_ble_eq_true rfl, Nat.le_of_ble_eq_true rfl⟩ rfl (fun H locs hP hD hS => ?_)
          refine lv_imul hx hb dX4_scoop_71 ?_
          refine lv_iadd hx hb dX4_scoop_72 ?_
          refine w_mmin hx hb (hml.trans hl.1.symm) hown (hts _ mlX4_scoop_40) (hts _ msX4_scoop_min) (hts _ miX4_scoop) (hts _ mcX4_scoop_min) (Nat.le_of_ble_eq_true rfl) (Nat.le_of_ble_eq_true rfl) (Nat.le_of_ble_eq_true rfl) (Nat.le_of_ble_eq_true rfl) dX4_scoop_73 ?_
          refine c0_V (As := [.int (nI t), .int 0, .int (imn 60 ((f (19 + 3 * t)) + (2 * (f (8 + 3 * i)))))]) (rest := []) ⟨hx, hb, hml, hown, hts⟩ (mX4_setTub l D cI cC cT cL M 0 nc nt f k g (nI t) 0 (imn 60 ((f (19 + 3 * t)) + (2 * (f (8 + 3 * i))))) t 0 (19 + 3 * t) rfl rfl (by omega) (by omega)) (cwV 3 hts gX4_scoop_X4_setTub rfl rfl rfl pX4_setTub ⟨Nat.le_of_ble_eq_true rfl, Nat.le_of_ble_eq_true rfl⟩) hK hP hD hS hA hST (Jn_mw) 0 rfl rfl rfl rfl hl.1 rfl (Nat.le_of_ble_eq_true rfl) dX4_scoop_76 ⟨Nat.le_of_ble_eq_true rfl, Nat.le_of_ble_eq_true rfl⟩ rfl (fun H locs hP hD hS => ?_)
          refine lv_aload_n hx hb dX4_scoop_79 rfl (lv_at hl 0 rfl) ?_
          refine lv_iload_n hx hb dX4_scoop_80 rfl (lv_at hl 2 rfl) ?_
          refine lv_iconst (v := 1) hx hb dX4_scoop_81 (by decide) ?_
          refine lv_aload_n hx hb dX4_scoop_82 rfl (lv_at hl 0 rfl) ?_
          refine lv_iload_n hx hb dX4_scoop_83 rfl (lv_at hl 2 rfl) ?_
          refine lv_iconst (v := 1) hx hb dX4_scoop_84 (by decide) ?_
          refine c0_V (As := [.int (nI t), .int 1]) (rest := [.int 1, .int (nI t), .ref (M 0)]) ⟨hx, hb, hml, hown, hts⟩ (mX4_tu l D cI cC cT cL M 0 nc nt (upd f (19 + 3 * t) (imn 60 ((f (19 + 3 * t)) + (2 * (f (8 + 3 * i)))))) k g (nI t) 1 t 1 (20 + 3 * t) rfl rfl (by omega) (by omega)) (cwV 2 hts gX4_scoop_X4_tu rfl rfl rfl pX4_tu ⟨Nat.le_of_ble_eq_true rfl, Nat.le_of_ble_eq_true rfl⟩) hK hP hD hS hA hST (Jn_mw) 0 rfl rfl rfl rfl hl.1 rfl (Nat.le_of_ble_eq_true rfl) dX4_scoop_85 ⟨Nat.le_of_ble_eq_true rfl, Nat.le_of_ble_eq_true rfl⟩ rfl (fun H locs hP hD hS => ?_)
          refine lv_bipush (v := 100) hx hb dX4_scoop_88 (by decide) ?_
          refine lv_aload_n hx hb dX4_scoop_90 rfl (lv_at hl 0 rfl) ?_
          refine lv_iload_n hx hb dX4_scoop_91 rfl (lv_at hl 1 rfl) ?_
          refine lv_iconst (v := 2) hx hb dX4_scoop_92 (by decide) ?_
          refine c0_V (As := [.int (nI i), .int 2]) (rest := [.int 100, .int ((upd f (19 + 3 * t) (imn 60 ((f (19 + 3 * t)) + (2 * (f (8 + 3 * i)))))) (20 + 3 * t)), .int 1, .int (nI t), .ref (M 0)]) ⟨hx, hb, hml, hown, hts⟩ (mX4_ch l D cI cC cT cL M 0 nc nt (upd f (19 + 3 * t) (imn 60 ((f (19 + 3 * t)) + (2 * (f (8 + 3 * i)))))) k g (nI i) 2 i 2 (9 + 3 * i) rfl rfl (by omega) (by omega)) (cwV 2 hts gX4_scoop_X4_ch rfl rfl rfl pX4_ch ⟨Nat.le_of_ble_eq_true rfl, Nat.le_of_ble_eq_true rfl⟩) hK hP hD hS hA hST (Jn_mw) 0 rfl rfl rfl rfl hl.1 rfl (Nat.le_of_ble_eq_true rfl) dX4_scoop_93 ⟨Nat.le_of_ble_eq_true rfl, Nat.le_of_ble_eq_true rfl⟩ rfl (fun H locs hP hD hS => ?_)
          refine lv_isub hx hb dX4_scoop_96 ?_
          refine w_mmax hx hb (hml.trans hl.1.symm) hown (hts _ mlX4_scoop_70) (hts _ msX4_scoop_max) (hts _ miX4_scoop) (hts _ mcX4_scoop_max) (Nat.le_of_ble_eq_true rfl) (Nat.le_of_ble_eq_true rfl) (Nat.le_of_ble_eq_true rfl) (Nat.le_of_ble_eq_true rfl) dX4_scoop_97 ?_
          refine c0_V (As := [.int (nI t), .int 1, .int (imx ((upd f (19 + 3 * t) (imn 60 ((f (19 + 3 * t)) + (2 * (f (8 + 3 * i)))))) (20 + 3 * t)) (100 - ((upd f (19 + 3 * t) (imn 60 ((f (19 + 3 * t)) + (2 * (f (8 + 3 * i)))))) (9 + 3 * i))))]) (rest := []) ⟨hx, hb, hml, hown, hts⟩ (mX4_setTub l D cI cC cT cL M 0 nc nt (upd f (19 + 3 * t) (imn 60 ((f (19 + 3 * t)) + (2 * (f (8 + 3 * i)))))) k g (nI t) 1 (imx ((upd f (19 + 3 * t) (imn 60 ((f (19 + 3 * t)) + (2 * (f (8 + 3 * i)))))) (20 + 3 * t)) (100 - ((upd f (19 + 3 * t) (imn 60 ((f (19 + 3 * t)) + (2 * (f (8 + 3 * i)))))) (9 + 3 * i)))) t 1 (20 + 3 * t) rfl rfl (by omega) (by omega)) (cwV 3 hts gX4_scoop_X4_setTub rfl rfl rfl pX4_setTub ⟨Nat.le_of_ble_eq_true rfl, Nat.le_of_ble_eq_true rfl⟩) hK hP hD hS hA hST (Jn_mw) 0 rfl rfl rfl rfl hl.1 rfl (Nat.le_of_ble_eq_true rfl) dX4_scoop_100 ⟨Nat.le_of_ble_eq_true rfl, Nat.le_of_ble_eq_true rfl⟩ rfl (fun H locs hP hD hS => ?_)
          refine lv_aload_n hx hb dX4_scoop_103 rfl (lv_at hl 0 rfl) ?_
          refine lv_iload_n hx hb dX4_scoop_104 rfl (lv_at hl 1 rfl) ?_
          refine lv_iconst (v := 1) hx hb dX4_scoop_105 (by decide) ?_
          refine lv_iconst (v := 0) hx hb dX4_scoop_106 (by decide) ?_
          refine c0_V (As := [.int (nI i), .int 1, .int 0]) (rest := []) ⟨hx, hb, hml, hown, hts⟩ (mX4_setChurn l D cI cC cT cL M 0 nc nt (upd (upd f (19 + 3 * t) (imn 60 ((f (19 + 3 * t)) + (2 * (f (8 + 3 * i)))))) (20 + 3 * t) (imx ((upd f (19 + 3 * t) (imn 60 ((f (19 + 3 * t)) + (2 * (f (8 + 3 * i)))))) (20 + 3 * t)) (100 - ((upd f (19 + 3 * t) (imn 60 ((f (19 + 3 * t)) + (2 * (f (8 + 3 * i)))))) (9 + 3 * i))))) k g (nI i) 1 0 i 1 (8 + 3 * i) rfl rfl (by omega) (by omega)) (cwV 3 hts gX4_scoop_X4_setChurn rfl rfl rfl pX4_setChurn ⟨Nat.le_of_ble_eq_true rfl, Nat.le_of_ble_eq_true rfl⟩) hK hP hD hS hA hST (Jn_mw) 0 rfl rfl rfl rfl hl.1 rfl (Nat.le_of_ble_eq_true rfl) dX4_scoop_107 ⟨Nat.le_of_ble_eq_true rfl, Nat.le_of_ble_eq_true rfl⟩ rfl (fun H locs hP hD hS => ?_)
          refine lv_aload_n hx hb dX4_scoop_110 rfl (lv_at hl 0 rfl) ?_
          refine lv_iload_n hx hb dX4_scoop_111 rfl (lv_at hl 1 rfl) ?_
          refine lv_iconst (v := 2) hx hb dX4_scoop_112 (by decide) ?_
          refine lv_iconst (v := 0) hx hb dX4_scoop_113 (by decide) ?_
          refine c0_V (As := [.int (nI i), .int 2, .int 0]) (rest := []) ⟨hx, hb, hml, hown, hts⟩ (mX4_setChurn l D cI cC cT cL M 0 nc nt (upd (upd (upd f (19 + 3 * t) (imn 60 ((f (19 + 3 * t)) + (2 * (f (8 + 3 * i)))))) (20 + 3 * t) (imx ((upd f (19 + 3 * t) (imn 60 ((f (19 + 3 * t)) + (2 * (f (8 + 3 * i)))))) (20 + 3 * t)) (100 - ((upd f (19 + 3 * t) (imn 60 ((f (19 + 3 * t)) + (2 * (f (8 + 3 * i)))))) (9 + 3 * i))))) (8 + 3 * i) 0) k g (nI i) 2 0 i 2 (9 + 3 * i) rfl rfl (by omega) (by omega)) (cwV 3 hts gX4_scoop_X4_setChurn rfl rfl rfl pX4_setChurn ⟨Nat.le_of_ble_eq_true rfl, Nat.le_of_ble_eq_true rfl⟩) hK hP hD hS hA hST (Jn_mw) 0 rfl rfl rfl rfl hl.1 rfl (Nat.le_of_ble_eq_true rfl) dX4_scoop_114 ⟨Nat.le_of_ble_eq_true rfl, Nat.le_of_ble_eq_true rfl⟩ rfl (fun H locs hP hD hS => ?_)
          refine lv_aload_n hx hb dX4_scoop_117 rfl (lv_at hl 0 rfl) ?_
          refine lv_iload_n hx hb dX4_scoop_118 rfl (lv_at hl 2 rfl) ?_
          refine lv_iconst (v := 0) hx hb dX4_scoop_119 (by decide) ?_
          refine c0_V (As := [.int (nI t), .int 0]) (rest := []) ⟨hx, hb, hml, hown, hts⟩ (mX4_tu l D cI cC cT cL M 0 nc nt (upd (upd (upd (upd f (19 + 3 * t) (imn 60 ((f (19 + 3 * t)) + (2 * (f (8 + 3 * i)))))) (20 + 3 * t) (imx ((upd f (19 + 3 * t) (imn 60 ((f (19 + 3 * t)) + (2 * (f (8 + 3 * i)))))) (20 + 3 * t)) (100 - ((upd f (19 + 3 * t) (imn 60 ((f (19 + 3 * t)) + (2 * (f (8 + 3 * i)))))) (9 + 3 * i))))) (8 + 3 * i) 0) (9 + 3 * i) 0) k g (nI t) 0 t 0 (19 + 3 * t) rfl rfl (by omega) (by omega)) (cwV 2 hts gX4_scoop_X4_tu rfl rfl rfl pX4_tu ⟨Nat.le_of_ble_eq_true rfl, Nat.le_of_ble_eq_true rfl⟩) hK hP hD hS hA hST (Jn_mw) 0 rfl rfl rfl rfl hl.1 rfl (Nat.le_of_ble_eq_true rfl) dX4_scoop_120 ⟨Nat.le_of_ble_eq_true rfl, Nat.le_of_ble_eq_true rfl⟩ rfl (fun H locs hP hD hS => ?_)
          have hK9 : kScoop nc nt f (nI i) (nI t) = 0 := by rw [kScoop, nI_clamp (by omega), if_pos (inB_Rt (by omega) c_10), if_pos (inB_Rt (by omega) c_18), if_neg c_33, if_neg (Int32.not_lt.mpr c_44)]
          exact e0_i hx hb hr hlocks (P_eq (by first | (rw [hK9, sel_0, nI_clamp (by omega), nI_clamp (by omega), nI_clamp (by omega), scoopm (by omega)] <;> rfl) | (rw [hK9, sel_0, nI_clamp (by omega), nI_clamp (by omega), scoopm (by omega)] <;> rfl) | (rw [hK9, sel_0, nI_clamp (by omega), scoopm (by omega)] <;> rfl) | (rw [hK9, sel_0, scoopm (by omega)] <;> rfl) | (rw [hK9, scoopm (by omega)] <;> rfl)) hP) hS dX4_scoop_123 (by decide) (by decide) (by first | (rw [hK9, sel_0, nI_clamp (by omega), nI_clamp (by omega), nI_clamp (by omega), scoopm (by omega)] <;> rfl) | (rw [hK9, sel_0, nI_clamp (by omega), nI_clamp (by omega), scoopm (by omega)] <;> rfl) | (rw [hK9, sel_0, nI_clamp (by omega), scoopm (by omega)] <;> rfl) | (rw [hK9, sel_0, scoopm (by omega)] <;> rfl) | (rw [hK9, scoopm (by omega)] <;> rfl))
        ·
          refine lv_aload_n hx hb dX4_scoop_47 rfl (lv_at hl 0 rfl) ?_
          refine lv_iconst (v := 2) hx hb dX4_scoop_48 (by decide) ?_
          refine c0_V (As := [.int 2]) (rest := []) ⟨hx, hb, hml, hown, hts⟩ (mX4_no l D cI cC cT cL M 0 nc nt f k g 2) (cwV 1 hts gX4_scoop_X4_no rfl rfl rfl pX4_no ⟨Nat.le_of_ble_eq_true rfl, Nat.le_of_ble_eq_true rfl⟩) hK hP hD hS hA hST (Jn_mw) 0 rfl rfl rfl rfl hl.1 rfl (Nat.le_of_ble_eq_true rfl) dX4_scoop_49 ⟨Nat.le_of_ble_eq_true rfl, Nat.le_of_ble_eq_true rfl⟩ rfl (fun H locs hP hD hS => ?_)
          have hK9 : kScoop nc nt f (nI i) (nI t) = 2 := by rw [kScoop, nI_clamp (by omega), if_pos (inB_Rt (by omega) c_10), if_pos (inB_Rt (by omega) c_18), if_neg c_33, if_pos (Int32.not_le.mp c_44)]
          exact e0_i hx hb hr hlocks (P_eq (by (rw [hK9] <;> rfl)) hP) hS dX4_scoop_52 (by decide) (by decide) (by (rw [hK9] <;> rfl))
    ·
      refine lv_aload_n hx hb dX4_scoop_21 rfl (lv_at hl 0 rfl) ?_
      refine lv_iconst (v := 1) hx hb dX4_scoop_22 (by decide) ?_
      refine c0_V (As := [.int 1]) (rest := []) ⟨hx, hb, hml, hown, hts⟩ (mX4_no l D cI cC cT cL M 0 nc nt f k g 1) (cwV 1 hts gX4_scoop_X4_no rfl rfl rfl pX4_no ⟨Nat.le_of_ble_eq_true rfl, Nat.le_of_ble_eq_true rfl⟩) hK hP hD hS hA hST (Jn_mw) 0 rfl rfl rfl rfl hl.1 rfl (Nat.le_of_ble_eq_true rfl) dX4_scoop_23 ⟨Nat.le_of_ble_eq_true rfl, Nat.le_of_ble_eq_true rfl⟩ rfl (fun H locs hP hD hS => ?_)
      have hK9 : kScoop nc nt f u v = 1 := by rw [kScoop, if_pos (inB_Rt (by omega) c_10), if_neg (inB_Rf (by omega) c_18)]
      exact e0_i hx hb hr hlocks (P_eq (by (rw [hK9] <;> rfl)) hP) hS dX4_scoop_26 (by decide) (by decide) (by (rw [hK9] <;> rfl))

set_option maxHeartbeats 4000000 in
set_option maxRecDepth 100000 in
theorem mX4_told (l : Launch) (D : va_G) (cI cC cT cL : ClassId) (M : Nat → Nat) (th : Int32) (nc nt : Nat) (f k g : Nat → Int32) (u v : Int32) (hnc : nc ≤ 4) : M0 l yX4_told wsX4_told ({ frames := 2, cells := 0, slots := 0, locals := 43 } : Room) D (TY cI cC cT cL) [.ref (M 0), .int u, .int v] (MW cI M th nc nt f k g) (some (.int (sel (kTold nc u v) (pick3 v.toNatClampNeg (f (7 + 3 * u.toNatClampNeg)) (f (8 + 3 * u.toNatClampNeg)) (f (9 + 3 * u.toNatClampNeg))) 0))) (MW cI M (nI (kTold nc u v)) nc nt f k g) 0 0 := by
  refine M0_of (cc := cX4_told) (maxL := 3) (ret := (some .int)) (by decide +kernel) rfl (Nat.le_of_ble_eq_true rfl) ?_
  intro p e s m args below meth c A0 B ls hl
  obtain ⟨hx, hb, hml, hr, hown, hts, hlocks, hK, hP, hD, hA, hST, hnm⟩ := B
  have hown : s.vm.findClass RX4 = some m.cls := hown
  have hS : va_S A0 s.heap s.heap [] := va_S.rf
  have hl : lv_has ls 3 [(0, .ref (M 0)), (1, .int u), (2, .int v)] := hl
  refine lv_aload_n hx hb dX4_told_0 rfl (lv_at hl 0 rfl) ?_
  refine lv_iconst (v := 0) hx hb dX4_told_1 (by decide) ?_
  refine w_put (C := RX4) hx hb hts iX4_told_X4 tyX4_ok nmX4 hown hK hP hD hS 0 rfl rfl 0 (by decide) fX4_told_19 rfl rfl rfl rfl (Nat.le_of_ble_eq_true rfl) (ws' := MW cI M 0 nc nt f k g) rfl dX4_told_2 (fun H locs hP hD hS => ?_)
  refine lv_aload_n hx hb dX4_told_5 rfl (lv_at hl 0 rfl) ?_
  refine lv_iload_n hx hb dX4_told_6 rfl (lv_at hl 1 rfl) ?_
  refine c0_V (As := [.int u]) (rest := []) ⟨hx, hb, hml, hown, hts⟩ (mX4_isChurn l D cI cC cT cL M 0 nc nt f k g u) (cwV 1 hts gX4_told_X4_isChurn rfl rfl rfl pX4_isChurn ⟨Nat.le_of_ble_eq_true rfl, Nat.le_of_ble_eq_true rfl⟩) hK hP hD hS hA hST (Jn_mw) 0 rfl rfl rfl rfl hl.1 rfl (Nat.le_of_ble_eq_true rfl) dX4_told_7 ⟨Nat.le_of_ble_eq_true rfl, Nat.le_of_ble_eq_true rfl⟩ rfl (fun H locs hP hD hS => ?_)
  refine lv_if_eq (tgt := 31) hx hb dX4_told_10 (by decide) (fun c_10 => ?_) (fun c_10 => ?_)
  ·
    refine lv_aload_n hx hb dX4_told_31 rfl (lv_at hl 0 rfl) ?_
    refine lv_iconst (v := 1) hx hb dX4_told_32 (by decide) ?_
    refine c0_V (As := [.int 1]) (rest := []) ⟨hx, hb, hml, hown, hts⟩ (mX4_no l D cI cC cT cL M 0 nc nt f k g 1) (cwV 1 hts gX4_told_X4_no rfl rfl rfl pX4_no ⟨Nat.le_of_ble_eq_true rfl, Nat.le_of_ble_eq_true rfl⟩) hK hP hD hS hA hST (Jn_mw) 0 rfl rfl rfl rfl hl.1 rfl (Nat.le_of_ble_eq_true rfl) dX4_told_33 ⟨Nat.le_of_ble_eq_true rfl, Nat.le_of_ble_eq_true rfl⟩ rfl (fun H locs hP hD hS => ?_)
    have hK9 : kTold nc u v = 1 := by rw [kTold, if_neg (inB_Rf (by omega) c_10)]
    exact e0_i hx hb hr hlocks (P_eq (by (rw [hK9] <;> rfl)) hP) hS dX4_told_36 (by decide) (by decide) (by (rw [hK9] <;> rfl))
  ·
    refine lv_iload_n hx hb dX4_told_13 rfl (lv_at hl 2 rfl) ?_
    refine lv_iconst (v := 0) hx hb dX4_told_14 (by decide) ?_
    refine lv_iconst (v := 2) hx hb dX4_told_15 (by decide) ?_
    refine c0_S (As := [.int v, .int 0, .int 2]) (rest := []) ⟨hx, hb, hml, hown, hts⟩ (mX4_isIn l D cI cC cT cL v 0 2) (va_cwS 3 hts gX4_told_X4_isIn rfl rfl rfl pX4_isIn ⟨Nat.le_of_ble_eq_true rfl, Nat.le_of_ble_eq_true rfl⟩) hK hP hD hS hA hST (Jn_nil _) rfl hl.1 rfl (Nat.le_of_ble_eq_true rfl) dX4_told_16 ⟨Nat.le_of_ble_eq_true rfl, Nat.le_of_ble_eq_true rfl⟩ rfl (fun H locs hP hD hS => ?_)
    refine lv_if_eq (tgt := 31) hx hb dX4_told_19 (by decide) (fun c_19 => ?_) (fun c_19 => ?_)
    ·
      refine lv_aload_n hx hb dX4_told_31 rfl (lv_at hl 0 rfl) ?_
      refine lv_iconst (v := 1) hx hb dX4_told_32 (by decide) ?_
      refine c0_V (As := [.int 1]) (rest := []) ⟨hx, hb, hml, hown, hts⟩ (mX4_no l D cI cC cT cL M 0 nc nt f k g 1) (cwV 1 hts gX4_told_X4_no rfl rfl rfl pX4_no ⟨Nat.le_of_ble_eq_true rfl, Nat.le_of_ble_eq_true rfl⟩) hK hP hD hS hA hST (Jn_mw) 0 rfl rfl rfl rfl hl.1 rfl (Nat.le_of_ble_eq_true rfl) dX4_told_33 ⟨Nat.le_of_ble_eq_true rfl, Nat.le_of_ble_eq_true rfl⟩ rfl (fun H locs hP hD hS => ?_)
      have hK9 : kTold nc u v = 1 := by rw [kTold, if_pos (inB_Rt (by omega) c_10), if_neg (inB_f c_19)]
      exact e0_i hx hb hr hlocks (P_eq (by (rw [hK9] <;> rfl)) hP) hS dX4_told_36 (by decide) (by decide) (by (rw [hK9] <;> rfl))
    ·
      obtain ⟨i, hi, ei⟩ := inR_n (by omega) (inB_Rt (by omega) c_10)
      subst ei
      obtain ⟨w, hw, ew⟩ := cIn_n 2 (by decide) (inB_t c_19).1 (inB_t c_19).2
      subst ew
      refine lv_aload_n hx hb dX4_told_22 rfl (lv_at hl 0 rfl) ?_
      refine lv_iload_n hx hb dX4_told_23 rfl (lv_at hl 1 rfl) ?_
      refine lv_iload_n hx hb dX4_told_24 rfl (lv_at hl 2 rfl) ?_
      refine c0_V (As := [.int (nI i), .int (nI w)]) (rest := []) ⟨hx, hb, hml, hown, hts⟩ (mX4_ch l D cI cC cT cL M 0 nc nt f k g (nI i) (nI w) i w (7 + 3 * i + w) rfl rfl (by omega) (by omega)) (cwV 2 hts gX4_told_X4_ch rfl rfl rfl pX4_ch ⟨Nat.le_of_ble_eq_true rfl, Nat.le_of_ble_eq_true rfl⟩) hK hP hD hS hA hST (Jn_mw) 0 rfl rfl rfl rfl hl.1 rfl (Nat.le_of_ble_eq_true rfl) dX4_told_25 ⟨Nat.le_of_ble_eq_true rfl, Nat.le_of_ble_eq_true rfl⟩ rfl (fun H locs hP hD hS => ?_)
      refine lv_goto (tgt := 36) hx hb dX4_told_28 (by decide) ?_
      have hK9 : kTold nc (nI i) (nI w) = 0 := by rw [kTold, if_pos (inB_Rt (by omega) c_10), if_pos (inB_t c_19)]
      exact e0_i hx hb hr hlocks (P_eq (by first | (rw [hK9, sel_0, nI_clamp (by omega), nI_clamp (by omega), nI_clamp (by omega)] <;> rfl) | (rw [hK9, sel_0, nI_clamp (by omega), nI_clamp (by omega)] <;> rfl) | (rw [hK9, sel_0, nI_clamp (by omega)] <;> rfl) | (rw [hK9, sel_0] <;> rfl) | (rw [hK9] <;> rfl)) hP) hS dX4_told_36 (by decide) (by decide) (by first | (rw [hK9, sel_0, nI_clamp (by omega), nI_clamp (by omega), nI_clamp (by omega), pick_cm (f := f) (i := i) (w := w) (by omega)] <;> rfl) | (rw [hK9, sel_0, nI_clamp (by omega), nI_clamp (by omega), pick_cm (f := f) (i := i) (w := w) (by omega)] <;> rfl) | (rw [hK9, sel_0, nI_clamp (by omega), pick_cm (f := f) (i := i) (w := w) (by omega)] <;> rfl) | (rw [hK9, sel_0, pick_cm (f := f) (i := i) (w := w) (by omega)] <;> rfl) | (rw [hK9, pick_cm (f := f) (i := i) (w := w) (by omega)] <;> rfl))

set_option maxHeartbeats 4000000 in
set_option maxRecDepth 100000 in
theorem mX4_about (l : Launch) (D : va_G) (cI cC cT cL : ClassId) (M : Nat → Nat) (th : Int32) (nc nt : Nat) (f k g : Nat → Int32) (u v : Int32) (hnt : nt ≤ 6) : M0 l yX4_about wsX4_about ({ frames := 2, cells := 0, slots := 0, locals := 43 } : Room) D (TY cI cC cT cL) [.ref (M 0), .int u, .int v] (MW cI M th nc nt f k g) (some (.int (sel (kTold nt u v) (pick3 v.toNatClampNeg (f (19 + 3 * u.toNatClampNeg)) (f (20 + 3 * u.toNatClampNeg)) (f (21 + 3 * u.toNatClampNeg))) 0))) (MW cI M (nI (kTold nt u v)) nc nt f k g) 0 0 := by
  refine M0_of (cc := cX4_about) (maxL := 3) (ret := (some .int)) (by decide +kernel) rfl (Nat.le_of_ble_eq_true rfl) ?_
  intro p e s m args below meth c A0 B ls hl
  obtain ⟨hx, hb, hml, hr, hown, hts, hlocks, hK, hP, hD, hA, hST, hnm⟩ := B
  have hown : s.vm.findClass RX4 = some m.cls := hown
  have hS : va_S A0 s.heap s.heap [] := va_S.rf
  have hl : lv_has ls 3 [(0, .ref (M 0)), (1, .int u), (2, .int v)] := hl
  refine lv_aload_n hx hb dX4_about_0 rfl (lv_at hl 0 rfl) ?_
  refine lv_iconst (v := 0) hx hb dX4_about_1 (by decide) ?_
  refine w_put (C := RX4) hx hb hts iX4_about_X4 tyX4_ok nmX4 hown hK hP hD hS 0 rfl rfl 0 (by decide) fX4_about_19 rfl rfl rfl rfl (Nat.le_of_ble_eq_true rfl) (ws' := MW cI M 0 nc nt f k g) rfl dX4_about_2 (fun H locs hP hD hS => ?_)
  refine lv_aload_n hx hb dX4_about_5 rfl (lv_at hl 0 rfl) ?_
  refine lv_iload_n hx hb dX4_about_6 rfl (lv_at hl 1 rfl) ?_
  refine c0_V (As := [.int u]) (rest := []) ⟨hx, hb, hml, hown, hts⟩ (mX4_isTub l D cI cC cT cL M 0 nc nt f k g u) (cwV 1 hts gX4_about_X4_isTub rfl rfl rfl pX4_isTub ⟨Nat.le_of_ble_eq_true rfl, Nat.le_of_ble_eq_true rfl⟩) hK hP hD hS hA hST (Jn_mw) 0 rfl rfl rfl rfl hl.1 rfl (Nat.le_of_ble_eq_true rfl) dX4_about_7 ⟨Nat.le_of_ble_eq_true rfl, Nat.le_of_ble_eq_true rfl⟩ rfl (fun H locs hP hD hS => ?_)
  refine lv_if_eq (tgt := 31) hx hb dX4_about_10 (by decide) (fun c_10 => ?_) (fun c_10 => ?_)
  ·
    refine lv_aload_n hx hb dX4_about_31 rfl (lv_at hl 0 rfl) ?_
    refine lv_iconst (v := 1) hx hb dX4_about_32 (by decide) ?_
    refine c0_V (As := [.int 1]) (rest := []) ⟨hx, hb, hml, hown, hts⟩ (mX4_no l D cI cC cT cL M 0 nc nt f k g 1) (cwV 1 hts gX4_about_X4_no rfl rfl rfl pX4_no ⟨Nat.le_of_ble_eq_true rfl, Nat.le_of_ble_eq_true rfl⟩) hK hP hD hS hA hST (Jn_mw) 0 rfl rfl rfl rfl hl.1 rfl (Nat.le_of_ble_eq_true rfl) dX4_about_33 ⟨Nat.le_of_ble_eq_true rfl, Nat.le_of_ble_eq_true rfl⟩ rfl (fun H locs hP hD hS => ?_)
    have hK9 : kTold nt u v = 1 := by rw [kTold, if_neg (inB_Rf (by omega) c_10)]
    exact e0_i hx hb hr hlocks (P_eq (by (rw [hK9] <;> rfl)) hP) hS dX4_about_36 (by decide) (by decide) (by (rw [hK9] <;> rfl))
  ·
    refine lv_iload_n hx hb dX4_about_13 rfl (lv_at hl 2 rfl) ?_
    refine lv_iconst (v := 0) hx hb dX4_about_14 (by decide) ?_
    refine lv_iconst (v := 2) hx hb dX4_about_15 (by decide) ?_
    refine c0_S (As := [.int v, .int 0, .int 2]) (rest := []) ⟨hx, hb, hml, hown, hts⟩ (mX4_isIn l D cI cC cT cL v 0 2) (va_cwS 3 hts gX4_about_X4_isIn rfl rfl rfl pX4_isIn ⟨Nat.le_of_ble_eq_true rfl, Nat.le_of_ble_eq_true rfl⟩) hK hP hD hS hA hST (Jn_nil _) rfl hl.1 rfl (Nat.le_of_ble_eq_true rfl) dX4_about_16 ⟨Nat.le_of_ble_eq_true rfl, Nat.le_of_ble_eq_true rfl⟩ rfl (fun H locs hP hD hS => ?_)
    refine lv_if_eq (tgt := 31) hx hb dX4_about_19 (by decide) (fun c_19 => ?_) (fun c_19 => ?_)
    ·
      refine lv_aload_n hx hb dX4_about_31 rfl (lv_at hl 0 rfl) ?_
      refine lv_iconst (v := 1) hx hb dX4_about_32 (by decide) ?_
      refine c0_V (As := [.int 1]) (rest := []) ⟨hx, hb, hml, hown, hts⟩ (mX4_no l D cI cC cT cL M 0 nc nt f k g 1) (cwV 1 hts gX4_about_X4_no rfl rfl rfl pX4_no ⟨Nat.le_of_ble_eq_true rfl, Nat.le_of_ble_eq_true rfl⟩) hK hP hD hS hA hST (Jn_mw) 0 rfl rfl rfl rfl hl.1 rfl (Nat.le_of_ble_eq_true rfl) dX4_about_33 ⟨Nat.le_of_ble_eq_true rfl, Nat.le_of_ble_eq_true rfl⟩ rfl (fun H locs hP hD hS => ?_)
      have hK9 : kTold nt u v = 1 := by rw [kTold, if_pos (inB_Rt (by omega) c_10), if_neg (inB_f c_19)]
      exact e0_i hx hb hr hlocks (P_eq (by (rw [hK9] <;> rfl)) hP) hS dX4_about_36 (by decide) (by decide) (by (rw [hK9] <;> rfl))
    ·
      obtain ⟨i, hi, ei⟩ := inR_n (by omega) (inB_Rt (by omega) c_10)
      subst ei
      obtain ⟨w, hw, ew⟩ := cIn_n 2 (by decide) (inB_t c_19).1 (inB_t c_19).2
      subst ew
      refine lv_aload_n hx hb dX4_about_22 rfl (lv_at hl 0 rfl) ?_
      refine lv_iload_n hx hb dX4_about_23 rfl (lv_at hl 1 rfl) ?_
      refine lv_iload_n hx hb dX4_about_24 rfl (lv_at hl 2 rfl) ?_
      refine c0_V (As := [.int (nI i), .int (nI w)]) (rest := []) ⟨hx, hb, hml, hown, hts⟩ (mX4_tu l D cI cC cT cL M 0 nc nt f k g (nI i) (nI w) i w (19 + 3 * i + w) rfl rfl (by omega) (by omega)) (cwV 2 hts gX4_about_X4_tu rfl rfl rfl pX4_tu ⟨Nat.le_of_ble_eq_true rfl, Nat.le_of_ble_eq_true rfl⟩) hK hP hD hS hA hST (Jn_mw) 0 rfl rfl rfl rfl hl.1 rfl (Nat.le_of_ble_eq_true rfl) dX4_about_25 ⟨Nat.le_of_ble_eq_true rfl, Nat.le_of_ble_eq_true rfl⟩ rfl (fun H locs hP hD hS => ?_)
      refine lv_goto (tgt := 36) hx hb dX4_about_28 (by decide) ?_
      have hK9 : kTold nt (nI i) (nI w) = 0 := by rw [kTold, if_pos (inB_Rt (by omega) c_10), if_pos (inB_t c_19)]
      exact e0_i hx hb hr hlocks (P_eq (by first | (rw [hK9, sel_0, nI_clamp (by omega), nI_clamp (by omega), nI_clamp (by omega)] <;> rfl) | (rw [hK9, sel_0, nI_clamp (by omega), nI_clamp (by omega)] <;> rfl) | (rw [hK9, sel_0, nI_clamp (by omega)] <;> rfl) | (rw [hK9, sel_0] <;> rfl) | (rw [hK9] <;> rfl)) hP) hS dX4_about_36 (by decide) (by decide) (by first | (rw [hK9, sel_0, nI_clamp (by omega), nI_clamp (by omega), nI_clamp (by omega), pick_tm (f := f) (i := i) (w := w) (by omega)] <;> rfl) | (rw [hK9, sel_0, nI_clamp (by omega), nI_clamp (by omega), pick_tm (f := f) (i := i) (w := w) (by omega)] <;> rfl) | (rw [hK9, sel_0, nI_clamp (by omega), pick_tm (f := f) (i := i) (w := w) (by omega)] <;> rfl) | (rw [hK9, sel_0, pick_tm (f := f) (i := i) (w := w) (by omega)] <;> rfl) | (rw [hK9, pick_tm (f := f) (i := i) (w := w) (by omega)] <;> rfl))

set_option maxHeartbeats 4000000 in
set_option maxRecDepth 100000 in
theorem mX4_count (l : Launch) (D : va_G) (cI cC cT cL : ClassId) (M : Nat → Nat) (th : Int32) (nc nt : Nat) (f k g : Nat → Int32) (u : Int32) (hnt : nt ≤ 6) (h : Nat) (hh : h < 2 ^ 30) (h0 : f 0 = nI h) : M0 l yX4_count wsX4_count ({ frames := 3, cells := 1, slots := 10, locals := 67 } : Room) D (TY cI cC cT cL) [.ref (M 0), .int u] (MW cI M th nc nt f k g) (some (.int (sel (kCount u) (cntF nt f g u.toNatClampNeg) 0))) (MW cI M (nI (kCount u)) nc nt f k g) 1 10 := by
  refine M0_of (cc := cX4_count) (maxL := 2) (ret := (some .int)) (by decide +kernel) rfl (Nat.le_of_ble_eq_true rfl) ?_
  intro p e s m args below meth c A0 B ls hl
  obtain ⟨hx, hb, hml, hr, hown, hts, hlocks, hK, hP, hD, hA, hST, hnm⟩ := B
  have hown : s.vm.findClass RX4 = some m.cls := hown
  have hS : va_S A0 s.heap s.heap [] := va_S.rf
  have hl : lv_has ls 2 [(0, .ref (M 0)), (1, .int u)] := hl
  refine lv_aload_n hx hb dX4_count_0 rfl (lv_at hl 0 rfl) ?_
  refine lv_iconst (v := 0) hx hb dX4_count_1 (by decide) ?_
  refine w_put (C := RX4) hx hb hts iX4_count_X4 tyX4_ok nmX4 hown hK hP hD hS 0 rfl rfl 0 (by decide) fX4_count_19 rfl rfl rfl rfl (Nat.le_of_ble_eq_true rfl) (ws' := MW cI M 0 nc nt f k g) rfl dX4_count_2 (fun H locs hP hD hS => ?_)
  refine lv_iload_n hx hb dX4_count_5 rfl (lv_at hl 1 rfl) ?_
  refine lv_iconst (v := 0) hx hb dX4_count_6 (by decide) ?_
  refine lv_bipush (v := 9) hx hb dX4_count_7 (by decide) ?_
  refine c0_S (As := [.int u, .int 0, .int 9]) (rest := []) ⟨hx, hb, hml, hown, hts⟩ (mX4_isIn l D cI cC cT cL u 0 9) (va_cwS 3 hts gX4_count_X4_isIn rfl rfl rfl pX4_isIn ⟨Nat.le_of_ble_eq_true rfl, Nat.le_of_ble_eq_true rfl⟩) hK hP hD hS hA hST (Jn_nil _) rfl hl.1 rfl (Nat.le_of_ble_eq_true rfl) dX4_count_9 ⟨Nat.le_of_ble_eq_true rfl, Nat.le_of_ble_eq_true rfl⟩ rfl (fun H locs hP hD hS => ?_)
  refine lv_if_eq (tgt := 23) hx hb dX4_count_12 (by decide) (fun c_12 => ?_) (fun c_12 => ?_)
  ·
    refine lv_aload_n hx hb dX4_count_23 rfl (lv_at hl 0 rfl) ?_
    refine lv_iconst (v := 1) hx hb dX4_count_24 (by decide) ?_
    refine c0_V (As := [.int 1]) (rest := []) ⟨hx, hb, hml, hown, hts⟩ (mX4_no l D cI cC cT cL M 0 nc nt f k g 1) (cwV 1 hts gX4_count_X4_no rfl rfl rfl pX4_no ⟨Nat.le_of_ble_eq_true rfl, Nat.le_of_ble_eq_true rfl⟩) hK hP hD hS hA hST (Jn_mw) 0 rfl rfl rfl rfl hl.1 rfl (Nat.le_of_ble_eq_true rfl) dX4_count_25 ⟨Nat.le_of_ble_eq_true rfl, Nat.le_of_ble_eq_true rfl⟩ rfl (fun H locs hP hD hS => ?_)
    have hK9 : kCount u = 1 := by rw [kCount, if_neg (inB_f c_12)]
    exact e0_i hx hb hr hlocks (P_eq (by (rw [hK9] <;> rfl)) hP) hS dX4_count_28 (by decide) (by decide) (by (rw [hK9] <;> rfl))
  ·
    obtain ⟨w, hw, ew⟩ := cIn_n 9 (by decide) (inB_t c_12).1 (inB_t c_12).2
    subst ew
    refine lv_aload_n hx hb dX4_count_15 rfl (lv_at hl 0 rfl) ?_
    refine lv_iload_n hx hb dX4_count_16 rfl (lv_at hl 1 rfl) ?_
    refine c0_V (As := [.int (nI w)]) (rest := []) ⟨hx, hb, hml, hown, hts⟩ (mX4_counted l D cI cC cT cL M 0 nc nt f k g (nI w) w rfl (by omega) hnt h (by omega) h0) (cwV 1 hts gX4_count_X4_counted rfl rfl rfl pX4_counted ⟨Nat.le_of_ble_eq_true rfl, Nat.le_of_ble_eq_true rfl⟩) hK hP hD hS hA hST (Jn_mw) 0 rfl rfl rfl rfl hl.1 rfl (Nat.le_of_ble_eq_true rfl) dX4_count_17 ⟨Nat.le_of_ble_eq_true rfl, Nat.le_of_ble_eq_true rfl⟩ rfl (fun H locs hP hD hS => ?_)
    refine lv_goto (tgt := 28) hx hb dX4_count_20 (by decide) ?_
    have hK9 : kCount (nI w) = 0 := by rw [kCount, if_pos (inB_t c_12)]
    exact e0_i hx hb hr hlocks (P_eq (by first | (rw [hK9, sel_0, nI_clamp (by omega), nI_clamp (by omega), nI_clamp (by omega)] <;> rfl) | (rw [hK9, sel_0, nI_clamp (by omega), nI_clamp (by omega)] <;> rfl) | (rw [hK9, sel_0, nI_clamp (by omega)] <;> rfl) | (rw [hK9, sel_0] <;> rfl) | (rw [hK9] <;> rfl)) hP) hS dX4_count_28 (by decide) (by decide) (by first | (rw [hK9, sel_0, nI_clamp (by omega), nI_clamp (by omega), nI_clamp (by omega)] <;> rfl) | (rw [hK9, sel_0, nI_clamp (by omega), nI_clamp (by omega)] <;> rfl) | (rw [hK9, sel_0, nI_clamp (by omega)] <;> rfl) | (rw [hK9, sel_0] <;> rfl) | (rw [hK9] <;> rfl))

set_option maxHeartbeats 4000000 in
set_option maxRecDepth 100000 in
theorem mX4_next (l : Launch) (D : va_G) (cI cC cT cL : ClassId) (M : Nat → Nat) (th : Int32) (nc nt : Nat) (f k g : Nat → Int32) (hnt : nt ≤ 6) : M0 l yX4_next wsX4_next ({ frames := 2, cells := 0, slots := 0, locals := 44 } : Room) D (TY cI cC cT cL) [.ref (M 0)] (MW cI M th nc nt f k g) (some (.int (nxt f nt))) (MW cI M 0 nc nt f k g) 0 0 := by
  refine M0_of (cc := cX4_next) (maxL := 1) (ret := (some .int)) (by decide +kernel) rfl (Nat.le_of_ble_eq_true rfl) ?_
  intro p e s m args below meth c A0 B ls hl
  obtain ⟨hx, hb, hml, hr, hown, hts, hlocks, hK, hP, hD, hA, hST, hnm⟩ := B
  have hown : s.vm.findClass RX4 = some m.cls := hown
  have hS : va_S A0 s.heap s.heap [] := va_S.rf
  have hl : lv_has ls 1 [(0, .ref (M 0))] := hl
  refine lv_aload_n hx hb dX4_next_0 rfl (lv_at hl 0 rfl) ?_
  refine lv_iconst (v := 0) hx hb dX4_next_1 (by decide) ?_
  refine w_put (C := RX4) hx hb hts iX4_next_X4 tyX4_ok nmX4 hown hK hP hD hS 0 rfl rfl 0 (by decide) fX4_next_19 rfl rfl rfl rfl (Nat.le_of_ble_eq_true rfl) (ws' := MW cI M 0 nc nt f k g) rfl dX4_next_2 (fun H locs hP hD hS => ?_)
  refine lv_aload_n hx hb dX4_next_5 rfl (lv_at hl 0 rfl) ?_
  refine c0_V (As := []) (rest := []) ⟨hx, hb, hml, hown, hts⟩ (mX4_nextTub l D cI cC cT cL M 0 nc nt f k g hnt) (cwV 0 hts gX4_next_X4_nextTub rfl rfl rfl pX4_nextTub ⟨Nat.le_of_ble_eq_true rfl, Nat.le_of_ble_eq_true rfl⟩) hK hP hD hS hA hST (Jn_mw) 0 rfl rfl rfl rfl hl.1 rfl (Nat.le_of_ble_eq_true rfl) dX4_next_6 ⟨Nat.le_of_ble_eq_true rfl, Nat.le_of_ble_eq_true rfl⟩ rfl (fun H locs hP hD hS => ?_)
  exact e0_i hx hb hr hlocks hP hS dX4_next_9 (by decide) (by decide) (rfl)
