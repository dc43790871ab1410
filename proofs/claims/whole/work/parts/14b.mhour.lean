set_option maxHeartbeats 4000000 in
set_option maxRecDepth 100000 in
theorem mX4_firmUp (l : Launch) (D : va_G) (cI cC cT cL : ClassId) (M : Nat → Nat) (th : Int32) (nc nt : Nat) (f k g : Nat → Int32) (i : Nat) (hi : i < 4) (z : Int32) : M0 l yX4_firmUp wsX4_firmUp ({ frames := 1, cells := 0, slots := 0, locals := 23 } : Room) D (TY cI cC cT cL) [.ref (M 0), .int (nI i), .int z] (MW cI M th nc nt f k g) (none) (MW cI M th nc nt (turn1 z i f) k g) 0 0 := by
  refine M0_of (cc := cX4_firmUp) (maxL := 3) (ret := none) (by decide +kernel) rfl (Nat.le_of_ble_eq_true rfl) ?_
  intro p e s m args below meth c A0 B ls hl
  obtain ⟨hx, hb, hml, hr, hown, hts, hlocks, hK, hP, hD, hA, hST, hnm⟩ := B
  have hown : s.vm.findClass RX4 = some m.cls := hown
  have hS : va_S A0 s.heap s.heap [] := va_S.rf
  have hl : lv_has ls 3 [(0, .ref (M 0)), (1, .int (nI i)), (2, .int z)] := hl
  refine lv_aload_n hx hb dX4_firmUp_0 rfl (lv_at hl 0 rfl) ?_
  refine lv_iload_n hx hb dX4_firmUp_1 rfl (lv_at hl 1 rfl) ?_
  refine lv_iconst (v := 1) hx hb dX4_firmUp_2 (by decide) ?_
  refine c0_V (As := [.int (nI i), .int 1]) (rest := []) ⟨hx, hb, hml, hown, hts⟩ (mX4_ch l D cI cC cT cL M th nc nt f k g (nI i) 1 i 1 (8 + 3 * i) rfl rfl (by omega) (by omega)) (cwV 2 hts gX4_firmUp_X4_ch rfl rfl rfl pX4_ch ⟨Nat.le_of_ble_eq_true rfl, Nat.le_of_ble_eq_true rfl⟩) hK hP hD hS hA hST (Jn_mw) 0 rfl rfl rfl rfl hl.1 rfl (Nat.le_of_ble_eq_true rfl) dX4_firmUp_3 ⟨Nat.le_of_ble_eq_true rfl, Nat.le_of_ble_eq_true rfl⟩ rfl (fun H locs hP hD hS => ?_)
  refine lv_if_le (tgt := 35) hx hb dX4_firmUp_6 (by decide) (fun c_6 => ?_) (fun c_6 => ?_)
  ·
    refine lv_aload_n hx hb dX4_firmUp_35 rfl (lv_at hl 0 rfl) ?_
    refine lv_iload_n hx hb dX4_firmUp_36 rfl (lv_at hl 1 rfl) ?_
    refine lv_iconst (v := 0) hx hb dX4_firmUp_37 (by decide) ?_
    refine lv_iconst (v := 0) hx hb dX4_firmUp_38 (by decide) ?_
    refine lv_aload_n hx hb dX4_firmUp_39 rfl (lv_at hl 0 rfl) ?_
    refine lv_iload_n hx hb dX4_firmUp_40 rfl (lv_at hl 1 rfl) ?_
    refine lv_iconst (v := 0) hx hb dX4_firmUp_41 (by decide) ?_
    refine c0_V (As := [.int (nI i), .int 0]) (rest := [.int 0, .int 0, .int (nI i), .ref (M 0)]) ⟨hx, hb, hml, hown, hts⟩ (mX4_ch l D cI cC cT cL M th nc nt f k g (nI i) 0 i 0 (7 + 3 * i) rfl rfl (by omega) (by omega)) (cwV 2 hts gX4_firmUp_X4_ch rfl rfl rfl pX4_ch ⟨Nat.le_of_ble_eq_true rfl, Nat.le_of_ble_eq_true rfl⟩) hK hP hD hS hA hST (Jn_mw) 0 rfl rfl rfl rfl hl.1 rfl (Nat.le_of_ble_eq_true rfl) dX4_firmUp_42 ⟨Nat.le_of_ble_eq_true rfl, Nat.le_of_ble_eq_true rfl⟩ rfl (fun H locs hP hD hS => ?_)
    refine lv_iload_n hx hb dX4_firmUp_45 rfl (lv_at hl 2 rfl) ?_
    refine lv_bipush (v := 10) hx hb dX4_firmUp_46 (by decide) ?_
    refine lv_idiv hx hb dX4_firmUp_48 (by decide) ?_
    refine lv_isub hx hb dX4_firmUp_49 ?_
    refine lv_iconst (v := 1) hx hb dX4_firmUp_50 (by decide) ?_
    refine lv_isub hx hb dX4_firmUp_51 ?_
    refine w_mmax hx hb (hml.trans hl.1.symm) hown (hts _ mlX4_firmUp_70) (hts _ msX4_firmUp_max) (hts _ miX4_firmUp) (hts _ mcX4_firmUp_max) (Nat.le_of_ble_eq_true rfl) (Nat.le_of_ble_eq_true rfl) (Nat.le_of_ble_eq_true rfl) (Nat.le_of_ble_eq_true rfl) dX4_firmUp_52 ?_
    refine c0_V (As := [.int (nI i), .int 0, .int (imx 0 (((f (7 + 3 * i)) - (z / 10)) - 1))]) (rest := []) ⟨hx, hb, hml, hown, hts⟩ (mX4_setChurn l D cI cC cT cL M th nc nt f k g (nI i) 0 (imx 0 (((f (7 + 3 * i)) - (z / 10)) - 1)) i 0 (7 + 3 * i) rfl rfl (by omega) (by omega)) (cwV 3 hts gX4_firmUp_X4_setChurn rfl rfl rfl pX4_setChurn ⟨Nat.le_of_ble_eq_true rfl, Nat.le_of_ble_eq_true rfl⟩) hK hP hD hS hA hST (Jn_mw) 0 rfl rfl rfl rfl hl.1 rfl (Nat.le_of_ble_eq_true rfl) dX4_firmUp_55 ⟨Nat.le_of_ble_eq_true rfl, Nat.le_of_ble_eq_true rfl⟩ rfl (fun H locs hP hD hS => ?_)
    exact e0_v hx hb hr hlocks (P_eq (by rw [turnm_f c_6]) hP) hS dX4_firmUp_58 (by decide) (by decide) (rfl)
  ·
    refine lv_aload_n hx hb dX4_firmUp_9 rfl (lv_at hl 0 rfl) ?_
    refine lv_iload_n hx hb dX4_firmUp_10 rfl (lv_at hl 1 rfl) ?_
    refine lv_iconst (v := 2) hx hb dX4_firmUp_11 (by decide) ?_
    refine lv_bipush (v := 100) hx hb dX4_firmUp_12 (by decide) ?_
    refine lv_aload_n hx hb dX4_firmUp_14 rfl (lv_at hl 0 rfl) ?_
    refine lv_iload_n hx hb dX4_firmUp_15 rfl (lv_at hl 1 rfl) ?_
    refine lv_iconst (v := 2) hx hb dX4_firmUp_16 (by decide) ?_
    refine c0_V (As := [.int (nI i), .int 2]) (rest := [.int 100, .int 2, .int (nI i), .ref (M 0)]) ⟨hx, hb, hml, hown, hts⟩ (mX4_ch l D cI cC cT cL M th nc nt f k g (nI i) 2 i 2 (9 + 3 * i) rfl rfl (by omega) (by omega)) (cwV 2 hts gX4_firmUp_X4_ch rfl rfl rfl pX4_ch ⟨Nat.le_of_ble_eq_true rfl, Nat.le_of_ble_eq_true rfl⟩) hK hP hD hS hA hST (Jn_mw) 0 rfl rfl rfl rfl hl.1 rfl (Nat.le_of_ble_eq_true rfl) dX4_firmUp_17 ⟨Nat.le_of_ble_eq_true rfl, Nat.le_of_ble_eq_true rfl⟩ rfl (fun H locs hP hD hS => ?_)
    refine lv_aload_n hx hb dX4_firmUp_20 rfl (lv_at hl 0 rfl) ?_
    refine lv_iload_n hx hb dX4_firmUp_21 rfl (lv_at hl 1 rfl) ?_
    refine lv_iconst (v := 0) hx hb dX4_firmUp_22 (by decide) ?_
    refine c0_V (As := [.int (nI i), .int 0]) (rest := [.int (f (9 + 3 * i)), .int 100, .int 2, .int (nI i), .ref (M 0)]) ⟨hx, hb, hml, hown, hts⟩ (mX4_ch l D cI cC cT cL M th nc nt f k g (nI i) 0 i 0 (7 + 3 * i) rfl rfl (by omega) (by omega)) (cwV 2 hts gX4_firmUp_X4_ch rfl rfl rfl pX4_ch ⟨Nat.le_of_ble_eq_true rfl, Nat.le_of_ble_eq_true rfl⟩) hK hP hD hS hA hST (Jn_mw) 0 rfl rfl rfl rfl hl.1 rfl (Nat.le_of_ble_eq_true rfl) dX4_firmUp_23 ⟨Nat.le_of_ble_eq_true rfl, Nat.le_of_ble_eq_true rfl⟩ rfl (fun H locs hP hD hS => ?_)
    refine lv_iconst (v := 3) hx hb dX4_firmUp_26 (by decide) ?_
    refine lv_idiv hx hb dX4_firmUp_27 (by decide) ?_
    refine lv_iadd hx hb dX4_firmUp_28 ?_
    refine w_mmin hx hb (hml.trans hl.1.symm) hown (hts _ mlX4_firmUp_40) (hts _ msX4_firmUp_min) (hts _ miX4_firmUp) (hts _ mcX4_firmUp_min) (Nat.le_of_ble_eq_true rfl) (Nat.le_of_ble_eq_true rfl) (Nat.le_of_ble_eq_true rfl) (Nat.le_of_ble_eq_true rfl) dX4_firmUp_29 ?_
    refine c0_V (As := [.int (nI i), .int 2, .int (imn 100 ((f (9 + 3 * i)) + ((f (7 + 3 * i)) / 3)))]) (rest := []) ⟨hx, hb, hml, hown, hts⟩ (mX4_setChurn l D cI cC cT cL M th nc nt f k g (nI i) 2 (imn 100 ((f (9 + 3 * i)) + ((f (7 + 3 * i)) / 3))) i 2 (9 + 3 * i) rfl rfl (by omega) (by omega)) (cwV 3 hts gX4_firmUp_X4_setChurn rfl rfl rfl pX4_setChurn ⟨Nat.le_of_ble_eq_true rfl, Nat.le_of_ble_eq_true rfl⟩) hK hP hD hS hA hST (Jn_mw) 0 rfl rfl rfl rfl hl.1 rfl (Nat.le_of_ble_eq_true rfl) dX4_firmUp_32 ⟨Nat.le_of_ble_eq_true rfl, Nat.le_of_ble_eq_true rfl⟩ rfl (fun H locs hP hD hS => ?_)
    refine lv_aload_n hx hb dX4_firmUp_35 rfl (lv_at hl 0 rfl) ?_
    refine lv_iload_n hx hb dX4_firmUp_36 rfl (lv_at hl 1 rfl) ?_
    refine lv_iconst (v := 0) hx hb dX4_firmUp_37 (by decide) ?_
    refine lv_iconst (v := 0) hx hb dX4_firmUp_38 (by decide) ?_
    refine lv_aload_n hx hb dX4_firmUp_39 rfl (lv_at hl 0 rfl) ?_
    refine lv_iload_n hx hb dX4_firmUp_40 rfl (lv_at hl 1 rfl) ?_
    refine lv_iconst (v := 0) hx hb dX4_firmUp_41 (by decide) ?_
    refine c0_V (As := [.int (nI i), .int 0]) (rest := [.int 0, .int 0, .int (nI i), .ref (M 0)]) ⟨hx, hb, hml, hown, hts⟩ (mX4_ch l D cI cC cT cL M th nc nt (upd f (9 + 3 * i) (imn 100 ((f (9 + 3 * i)) + ((f (7 + 3 * i)) / 3)))) k g (nI i) 0 i 0 (7 + 3 * i) rfl rfl (by omega) (by omega)) (cwV 2 hts gX4_firmUp_X4_ch rfl rfl rfl pX4_ch ⟨Nat.le_of_ble_eq_true rfl, Nat.le_of_ble_eq_true rfl⟩) hK hP hD hS hA hST (Jn_mw) 0 rfl rfl rfl rfl hl.1 rfl (Nat.le_of_ble_eq_true rfl) dX4_firmUp_42 ⟨Nat.le_of_ble_eq_true rfl, Nat.le_of_ble_eq_true rfl⟩ rfl (fun H locs hP hD hS => ?_)
    refine lv_iload_n hx hb dX4_firmUp_45 rfl (lv_at hl 2 rfl) ?_
    refine lv_bipush (v := 10) hx hb dX4_firmUp_46 (by decide) ?_
    refine lv_idiv hx hb dX4_firmUp_48 (by decide) ?_
    refine lv_isub hx hb dX4_firmUp_49 ?_
    refine lv_iconst (v := 1) hx hb dX4_firmUp_50 (by decide) ?_
    refine lv_isub hx hb dX4_firmUp_51 ?_
    refine w_mmax hx hb (hml.trans hl.1.symm) hown (hts _ mlX4_firmUp_70) (hts _ msX4_firmUp_max) (hts _ miX4_firmUp) (hts _ mcX4_firmUp_max) (Nat.le_of_ble_eq_true rfl) (Nat.le_of_ble_eq_true rfl) (Nat.le_of_ble_eq_true rfl) (Nat.le_of_ble_eq_true rfl) dX4_firmUp_52 ?_
    refine c0_V (As := [.int (nI i), .int 0, .int (imx 0 ((((upd f (9 + 3 * i) (imn 100 ((f (9 + 3 * i)) + ((f (7 + 3 * i)) / 3)))) (7 + 3 * i)) - (z / 10)) - 1))]) (rest := []) ⟨hx, hb, hml, hown, hts⟩ (mX4_setChurn l D cI cC cT cL M th nc nt (upd f (9 + 3 * i) (imn 100 ((f (9 + 3 * i)) + ((f (7 + 3 * i)) / 3)))) k g (nI i) 0 (imx 0 ((((upd f (9 + 3 * i) (imn 100 ((f (9 + 3 * i)) + ((f (7 + 3 * i)) / 3)))) (7 + 3 * i)) - (z / 10)) - 1)) i 0 (7 + 3 * i) rfl rfl (by omega) (by omega)) (cwV 3 hts gX4_firmUp_X4_setChurn rfl rfl rfl pX4_setChurn ⟨Nat.le_of_ble_eq_true rfl, Nat.le_of_ble_eq_true rfl⟩) hK hP hD hS hA hST (Jn_mw) 0 rfl rfl rfl rfl hl.1 rfl (Nat.le_of_ble_eq_true rfl) dX4_firmUp_55 ⟨Nat.le_of_ble_eq_true rfl, Nat.le_of_ble_eq_true rfl⟩ rfl (fun H locs hP hD hS => ?_)
    exact e0_v hx hb hr hlocks (P_eq (by rw [turnm_t c_6]) hP) hS dX4_firmUp_58 (by decide) (by decide) (rfl)

set_option maxHeartbeats 4000000 in
set_option maxRecDepth 100000 in
theorem mX4_soften (l : Launch) (D : va_G) (cI cC cT cL : ClassId) (M : Nat → Nat) (th : Int32) (nc nt : Nat) (f k g : Nat → Int32) (i q : Nat) (hI : Inv f) (hi : i < 6) (hq : q ≤ 40) : M0 l yX4_soften wsX4_soften ({ frames := 1, cells := 0, slots := 0, locals := 23 } : Room) D (TY cI cC cT cL) [.ref (M 0), .int (nI i), .int (nI q)] (MW cI M th nc nt f k g) (none) (MW cI M th nc nt (stand1 (nI q) i f) k g) 0 0 := by
  refine M0_of (cc := cX4_soften) (maxL := 4) (ret := none) (by decide +kernel) rfl (Nat.le_of_ble_eq_true rfl) ?_
  intro p e s m args below meth c A0 B ls hl
  obtain ⟨hx, hb, hml, hr, hown, hts, hlocks, hK, hP, hD, hA, hST, hnm⟩ := B
  have hown : s.vm.findClass RX4 = some m.cls := hown
  have hS : va_S A0 s.heap s.heap [] := va_S.rf
  have hl : lv_has ls 4 [(0, .ref (M 0)), (1, .int (nI i)), (2, .int (nI q))] := hl
  refine lv_aload_n hx hb dX4_soften_0 rfl (lv_at hl 0 rfl) ?_
  refine lv_iload_n hx hb dX4_soften_1 rfl (lv_at hl 1 rfl) ?_
  refine lv_iconst (v := 0) hx hb dX4_soften_2 (by decide) ?_
  refine c0_V (As := [.int (nI i), .int 0]) (rest := []) ⟨hx, hb, hml, hown, hts⟩ (mX4_tu l D cI cC cT cL M th nc nt f k g (nI i) 0 i 0 (19 + 3 * i) rfl rfl (by omega) (by omega)) (cwV 2 hts gX4_soften_X4_tu rfl rfl rfl pX4_tu ⟨Nat.le_of_ble_eq_true rfl, Nat.le_of_ble_eq_true rfl⟩) hK hP hD hS hA hST (Jn_mw) 0 rfl rfl rfl rfl hl.1 rfl (Nat.le_of_ble_eq_true rfl) dX4_soften_3 ⟨Nat.le_of_ble_eq_true rfl, Nat.le_of_ble_eq_true rfl⟩ rfl (fun H locs hP hD hS => ?_)
  refine lv_if_ne (tgt := 10) hx hb dX4_soften_6 (by decide) (fun c_6 => ?_) (fun c_6 => ?_)
  ·
    refine lv_iload_n hx hb dX4_soften_10 rfl (lv_at hl 2 rfl) ?_
    refine lv_bipush (v := 20) hx hb dX4_soften_11 (by decide) ?_
    refine lv_icmp_le (tgt := 38) hx hb dX4_soften_13 (by decide) (fun c_13 => ?_) (fun c_13 => ?_)
    ·
      refine lv_iconst (v := (-1)) hx hb dX4_soften_38 (by decide) ?_
      refine lv_istore_n (lv' := [(3, .int (-1)), (0, .ref (M 0)), (1, .int (nI i)), (2, .int (nI q))]) hx hb dX4_soften_39 rfl hl (by decide) rfl (fun ls hl => ?_)
      have hS9 : imx 0 (imn 100 (f (20 + 3 * i) + -1)) = softB (f (20 + 3 * i)) (nI q) (f 1) := by
        obtain ⟨b9, hb9, eb⟩ := of_bd (n := 100) (by decide) (hI.2.2 i hi).2
        rw [eb]
        exact softm hb9 hq _ _ (by rw [if_neg (fun h => absurd h.1 (Int32.not_lt.mpr c_13))])
      refine lv_aload_n hx hb dX4_soften_40 rfl (lv_at hl 1 rfl) ?_
      refine lv_iload_n hx hb dX4_soften_41 rfl (lv_at hl 2 rfl) ?_
      refine lv_iconst (v := 1) hx hb dX4_soften_42 (by decide) ?_
      refine lv_iconst (v := 0) hx hb dX4_soften_43 (by decide) ?_
      refine lv_bipush (v := 100) hx hb dX4_soften_44 (by decide) ?_
      refine lv_aload_n hx hb dX4_soften_46 rfl (lv_at hl 1 rfl) ?_
      refine lv_iload_n hx hb dX4_soften_47 rfl (lv_at hl 2 rfl) ?_
      refine lv_iconst (v := 1) hx hb dX4_soften_48 (by decide) ?_
      refine c0_V (As := [.int (nI i), .int 1]) (rest := [.int 100, .int 0, .int 1, .int (nI i), .ref (M 0)]) ⟨hx, hb, hml, hown, hts⟩ (mX4_tu l D cI cC cT cL M th nc nt f k g (nI i) 1 i 1 (20 + 3 * i) rfl rfl (by omega) (by omega)) (cwV 2 hts gX4_soften_X4_tu rfl rfl rfl pX4_tu ⟨Nat.le_of_ble_eq_true rfl, Nat.le_of_ble_eq_true rfl⟩) hK hP hD hS hA hST (Jn_mw) 0 rfl rfl rfl rfl hl.1 rfl (Nat.le_of_ble_eq_true rfl) dX4_soften_49 ⟨Nat.le_of_ble_eq_true rfl, Nat.le_of_ble_eq_true rfl⟩ rfl (fun H locs hP hD hS => ?_)
      refine lv_iload_n hx hb dX4_soften_52 rfl (lv_at hl 0 rfl) ?_
      refine lv_iadd hx hb dX4_soften_53 ?_
      refine w_mmin hx hb (hml.trans hl.1.symm) hown (hts _ mlX4_soften_40) (hts _ msX4_soften_min) (hts _ miX4_soften) (hts _ mcX4_soften_min) (Nat.le_of_ble_eq_true rfl) (Nat.le_of_ble_eq_true rfl) (Nat.le_of_ble_eq_true rfl) (Nat.le_of_ble_eq_true rfl) dX4_soften_54 ?_
      refine w_mmax hx hb (hml.trans hl.1.symm) hown (hts _ mlX4_soften_70) (hts _ msX4_soften_max) (hts _ miX4_soften) (hts _ mcX4_soften_max) (Nat.le_of_ble_eq_true rfl) (Nat.le_of_ble_eq_true rfl) (Nat.le_of_ble_eq_true rfl) (Nat.le_of_ble_eq_true rfl) dX4_soften_57 ?_
      refine c0_V (As := [.int (nI i), .int 1, .int (imx 0 (imn 100 ((f (20 + 3 * i)) + (-1))))]) (rest := []) ⟨hx, hb, hml, hown, hts⟩ (mX4_setTub l D cI cC cT cL M th nc nt f k g (nI i) 1 (imx 0 (imn 100 ((f (20 + 3 * i)) + (-1)))) i 1 (20 + 3 * i) rfl rfl (by omega) (by omega)) (cwV 3 hts gX4_soften_X4_setTub rfl rfl rfl pX4_setTub ⟨Nat.le_of_ble_eq_true rfl, Nat.le_of_ble_eq_true rfl⟩) hK hP hD hS hA hST (Jn_mw) 0 rfl rfl rfl rfl hl.1 rfl (Nat.le_of_ble_eq_true rfl) dX4_soften_60 ⟨Nat.le_of_ble_eq_true rfl, Nat.le_of_ble_eq_true rfl⟩ rfl (fun H locs hP hD hS => ?_)
      refine lv_aload_n hx hb dX4_soften_63 rfl (lv_at hl 1 rfl) ?_
      refine lv_iload_n hx hb dX4_soften_64 rfl (lv_at hl 2 rfl) ?_
      refine lv_iconst (v := 1) hx hb dX4_soften_65 (by decide) ?_
      refine c0_V (As := [.int (nI i), .int 1]) (rest := []) ⟨hx, hb, hml, hown, hts⟩ (mX4_tu l D cI cC cT cL M th nc nt (upd f (20 + 3 * i) (imx 0 (imn 100 ((f (20 + 3 * i)) + (-1))))) k g (nI i) 1 i 1 (20 + 3 * i) rfl rfl (by omega) (by omega)) (cwV 2 hts gX4_soften_X4_tu rfl rfl rfl pX4_tu ⟨Nat.le_of_ble_eq_true rfl, Nat.le_of_ble_eq_true rfl⟩) hK hP hD hS hA hST (Jn_mw) 0 rfl rfl rfl rfl hl.1 rfl (Nat.le_of_ble_eq_true rfl) dX4_soften_66 ⟨Nat.le_of_ble_eq_true rfl, Nat.le_of_ble_eq_true rfl⟩ rfl (fun H locs hP hD hS => ?_)
      refine lv_bipush (v := 100) hx hb dX4_soften_69 (by decide) ?_
      refine lv_icmp_ne (tgt := 92) hx hb dX4_soften_71 (by decide) (fun c_71 => ?_) (fun c_71 => ?_)
      ·
        exact e0_v hx hb hr hlocks (P_eq (by rw [(standm hI hi c_6 hS9).1 (fun q9 => c_71 (by rw [up_s]; exact q9))]) hP) hS dX4_soften_92 (by decide) (by decide) (rfl)
      ·
        refine lv_aload_n hx hb dX4_soften_74 rfl (lv_at hl 1 rfl) ?_
        refine lv_iload_n hx hb dX4_soften_75 rfl (lv_at hl 2 rfl) ?_
        refine lv_iconst (v := 0) hx hb dX4_soften_76 (by decide) ?_
        refine lv_iconst (v := 0) hx hb dX4_soften_77 (by decide) ?_
        refine lv_aload_n hx hb dX4_soften_78 rfl (lv_at hl 1 rfl) ?_
        refine lv_iload_n hx hb dX4_soften_79 rfl (lv_at hl 2 rfl) ?_
        refine lv_iconst (v := 0) hx hb dX4_soften_80 (by decide) ?_
        refine c0_V (As := [.int (nI i), .int 0]) (rest := [.int 0, .int 0, .int (nI i), .ref (M 0)]) ⟨hx, hb, hml, hown, hts⟩ (mX4_tu l D cI cC cT cL M th nc nt (upd f (20 + 3 * i) (imx 0 (imn 100 ((f (20 + 3 * i)) + (-1))))) k g (nI i) 0 i 0 (19 + 3 * i) rfl rfl (by omega) (by omega)) (cwV 2 hts gX4_soften_X4_tu rfl rfl rfl pX4_tu ⟨Nat.le_of_ble_eq_true rfl, Nat.le_of_ble_eq_true rfl⟩) hK hP hD hS hA hST (Jn_mw) 0 rfl rfl rfl rfl hl.1 rfl (Nat.le_of_ble_eq_true rfl) dX4_soften_81 ⟨Nat.le_of_ble_eq_true rfl, Nat.le_of_ble_eq_true rfl⟩ rfl (fun H locs hP hD hS => ?_)
        refine lv_iconst (v := 2) hx hb dX4_soften_84 (by decide) ?_
        refine lv_isub hx hb dX4_soften_85 ?_
        refine w_mmax hx hb (hml.trans hl.1.symm) hown (hts _ mlX4_soften_70) (hts _ msX4_soften_max) (hts _ miX4_soften) (hts _ mcX4_soften_max) (Nat.le_of_ble_eq_true rfl) (Nat.le_of_ble_eq_true rfl) (Nat.le_of_ble_eq_true rfl) (Nat.le_of_ble_eq_true rfl) dX4_soften_86 ?_
        refine c0_V (As := [.int (nI i), .int 0, .int (imx 0 (((upd f (20 + 3 * i) (imx 0 (imn 100 ((f (20 + 3 * i)) + (-1))))) (19 + 3 * i)) - 2))]) (rest := []) ⟨hx, hb, hml, hown, hts⟩ (mX4_setTub l D cI cC cT cL M th nc nt (upd f (20 + 3 * i) (imx 0 (imn 100 ((f (20 + 3 * i)) + (-1))))) k g (nI i) 0 (imx 0 (((upd f (20 + 3 * i) (imx 0 (imn 100 ((f (20 + 3 * i)) + (-1))))) (19 + 3 * i)) - 2)) i 0 (19 + 3 * i) rfl rfl (by omega) (by omega)) (cwV 3 hts gX4_soften_X4_setTub rfl rfl rfl pX4_setTub ⟨Nat.le_of_ble_eq_true rfl, Nat.le_of_ble_eq_true rfl⟩) hK hP hD hS hA hST (Jn_mw) 0 rfl rfl rfl rfl hl.1 rfl (Nat.le_of_ble_eq_true rfl) dX4_soften_89 ⟨Nat.le_of_ble_eq_true rfl, Nat.le_of_ble_eq_true rfl⟩ rfl (fun H locs hP hD hS => ?_)
        exact e0_v hx hb hr hlocks (P_eq (by rw [(standm hI hi c_6 hS9).2 (by have q9 := c_71; rw [up_s] at q9; exact q9)]) hP) hS dX4_soften_92 (by decide) (by decide) (rfl)
    ·
      refine lv_aload_n hx hb dX4_soften_16 rfl (lv_at hl 0 rfl) ?_
      refine w_get hx hb hts iX4_soften_X4 hown hK hP 0 rfl rfl 3 (by decide) fX4_soften_9 rfl rfl dX4_soften_17 ?_
      refine lv_iconst (v := 1) hx hb dX4_soften_20 (by decide) ?_
      refine w_ild hx hb hK hP 1 0 rfl rfl 1 rfl (by decide) (by decide) (v := f 1) rfl dX4_soften_21 ?_
      refine lv_bipush (v := 100) hx hb dX4_soften_22 (by decide) ?_
      refine lv_icmp_ge (tgt := 38) hx hb dX4_soften_24 (by decide) (fun c_24 => ?_) (fun c_24 => ?_)
      ·
        refine lv_iconst (v := (-1)) hx hb dX4_soften_38 (by decide) ?_
        refine lv_istore_n (lv' := [(3, .int (-1)), (0, .ref (M 0)), (1, .int (nI i)), (2, .int (nI q))]) hx hb dX4_soften_39 rfl hl (by decide) rfl (fun ls hl => ?_)
        have hS9 : imx 0 (imn 100 (f (20 + 3 * i) + -1)) = softB (f (20 + 3 * i)) (nI q) (f 1) := by
          obtain ⟨b9, hb9, eb⟩ := of_bd (n := 100) (by decide) (hI.2.2 i hi).2
          rw [eb]
          exact softm hb9 hq _ _ (by rw [if_neg (fun h => absurd h.2 (Int32.not_lt.mpr c_24))])
        refine lv_aload_n hx hb dX4_soften_40 rfl (lv_at hl 1 rfl) ?_
        refine lv_iload_n hx hb dX4_soften_41 rfl (lv_at hl 2 rfl) ?_
        refine lv_iconst (v := 1) hx hb dX4_soften_42 (by decide) ?_
        refine lv_iconst (v := 0) hx hb dX4_soften_43 (by decide) ?_
        refine lv_bipush (v := 100) hx hb dX4_soften_44 (by decide) ?_
        refine lv_aload_n hx hb dX4_soften_46 rfl (lv_at hl 1 rfl) ?_
        refine lv_iload_n hx hb dX4_soften_47 rfl (lv_at hl 2 rfl) ?_
        refine lv_iconst (v := 1) hx hb dX4_soften_48 (by decide) ?_
        refine c0_V (As := [.int (nI i), .int 1]) (rest := [.int 100, .int 0, .int 1, .int (nI i), .ref (M 0)]) ⟨hx, hb, hml, hown, hts⟩ (mX4_tu l D cI cC cT cL M th nc nt f k g (nI i) 1 i 1 (20 + 3 * i) rfl rfl (by omega) (by omega)) (cwV 2 hts gX4_soften_X4_tu rfl rfl rfl pX4_tu ⟨Nat.le_of_ble_eq_true rfl, Nat.le_of_ble_eq_true rfl⟩) hK hP hD hS hA hST (Jn_mw) 0 rfl rfl rfl rfl hl.1 rfl (Nat.le_of_ble_eq_true rfl) dX4_soften_49 ⟨Nat.le_of_ble_eq_true rfl, Nat.le_of_ble_eq_true rfl⟩ rfl (fun H locs hP hD hS => ?_)
        refine lv_iload_n hx hb dX4_soften_52 rfl (lv_at hl 0 rfl) ?_
        refine lv_iadd hx hb dX4_soften_53 ?_
        refine w_mmin hx hb (hml.trans hl.1.symm) hown (hts _ mlX4_soften_40) (hts _ msX4_soften_min) (hts _ miX4_soften) (hts _ mcX4_soften_min) (Nat.le_of_ble_eq_true rfl) (Nat.le_of_ble_eq_true rfl) (Nat.le_of_ble_eq_true rfl) (Nat.le_of_ble_eq_true rfl) dX4_soften_54 ?_
        refine w_mmax hx hb (hml.trans hl.1.symm) hown (hts _ mlX4_soften_70) (hts _ msX4_soften_max) (hts _ miX4_soften) (hts _ mcX4_soften_max) (Nat.le_of_ble_eq_true rfl) (Nat.le_of_ble_eq_true rfl) (Nat.le_of_ble_eq_true rfl) (Nat.le_of_ble_eq_true rfl) dX4_soften_57 ?_
        refine c0_V (As := [.int (nI i), .int 1, .int (imx 0 (imn 100 ((f (20 + 3 * i)) + (-1))))]) (rest := []) ⟨hx, hb, hml, hown, hts⟩ (mX4_setTub l D cI cC cT cL M th nc nt f k g (nI i) 1 (imx 0 (imn 100 ((f (20 + 3 * i)) + (-1)))) i 1 (20 + 3 * i) rfl rfl (by omega) (by omega)) (cwV 3 hts gX4_soften_X4_setTub rfl rfl rfl pX4_setTub ⟨Nat.le_of_ble_eq_true rfl, Nat.le_of_ble_eq_true rfl⟩) hK hP hD hS hA hST (Jn_mw) 0 rfl rfl rfl rfl hl.1 rfl (Nat.le_of_ble_eq_true rfl) dX4_soften_60 ⟨Nat.le_of_ble_eq_true rfl, Nat.le_of_ble_eq_true rfl⟩ rfl (fun H locs hP hD hS => ?_)
        refine lv_aload_n hx hb dX4_soften_63 rfl (lv_at hl 1 rfl) ?_
        refine lv_iload_n hx hb dX4_soften_64 rfl (lv_at hl 2 rfl) ?_
        refine lv_iconst (v := 1) hx hb dX4_soften_65 (by decide) ?_
        refine c0_V (As := [.int (nI i), .int 1]) (rest := []) ⟨hx, hb, hml, hown, hts⟩ (mX4_tu l D cI cC cT cL M th nc nt (upd f (20 + 3 * i) (imx 0 (imn 100 ((f (20 + 3 * i)) + (-1))))) k g (nI i) 1 i 1 (20 + 3 * i) rfl rfl (by omega) (by omega)) (cwV 2 hts gX4_soften_X4_tu rfl rfl rfl pX4_tu ⟨Nat.le_of_ble_eq_true rfl, Nat.le_of_ble_eq_true rfl⟩) hK hP hD hS hA hST (Jn_mw) 0 rfl rfl rfl rfl hl.1 rfl (Nat.le_of_ble_eq_true rfl) dX4_soften_66 ⟨Nat.le_of_ble_eq_true rfl, Nat.le_of_ble_eq_true rfl⟩ rfl (fun H locs hP hD hS => ?_)
        refine lv_bipush (v := 100) hx hb dX4_soften_69 (by decide) ?_
        refine lv_icmp_ne (tgt := 92) hx hb dX4_soften_71 (by decide) (fun c_71 => ?_) (fun c_71 => ?_)
        ·
          exact e0_v hx hb hr hlocks (P_eq (by rw [(standm hI hi c_6 hS9).1 (fun q9 => c_71 (by rw [up_s]; exact q9))]) hP) hS dX4_soften_92 (by decide) (by decide) (rfl)
        ·
          refine lv_aload_n hx hb dX4_soften_74 rfl (lv_at hl 1 rfl) ?_
          refine lv_iload_n hx hb dX4_soften_75 rfl (lv_at hl 2 rfl) ?_
          refine lv_iconst (v := 0) hx hb dX4_soften_76 (by decide) ?_
          refine lv_iconst (v := 0) hx hb dX4_soften_77 (by decide) ?_
          refine lv_aload_n hx hb dX4_soften_78 rfl (lv_at hl 1 rfl) ?_
          refine lv_iload_n hx hb dX4_soften_79 rfl (lv_at hl 2 rfl) ?_
          refine lv_iconst (v := 0) hx hb dX4_soften_80 (by decide) ?_
          refine c0_V (As := [.int (nI i), .int 0]) (rest := [.int 0, .int 0, .int (nI i), .ref (M 0)]) ⟨hx, hb, hml, hown, hts⟩ (mX4_tu l D cI cC cT cL M th nc nt (upd f (20 + 3 * i) (imx 0 (imn 100 ((f (20 + 3 * i)) + (-1))))) k g (nI i) 0 i 0 (19 + 3 * i) rfl rfl (by omega) (by omega)) (cwV 2 hts gX4_soften_X4_tu rfl rfl rfl pX4_tu ⟨Nat.le_of_ble_eq_true rfl, Nat.le_of_ble_eq_true rfl⟩) hK hP hD hS hA hST (Jn_mw) 0 rfl rfl rfl rfl hl.1 rfl (Nat.le_of_ble_eq_true rfl) dX4_soften_81 ⟨Nat.le_of_ble_eq_true rfl, Nat.le_of_ble_eq_true rfl⟩ rfl (fun H locs hP hD hS => ?_)
          refine lv_iconst (v := 2) hx hb dX4_soften_84 (by decide) ?_
          refine lv_isub hx hb dX4_soften_85 ?_
          refine w_mmax hx hb (hml.trans hl.1.symm) hown (hts _ mlX4_soften_70) (hts _ msX4_soften_max) (hts _ miX4_soften) (hts _ mcX4_soften_max) (Nat.le_of_ble_eq_true rfl) (Nat.le_of_ble_eq_true rfl) (Nat.le_of_ble_eq_true rfl) (Nat.le_of_ble_eq_true rfl) dX4_soften_86 ?_
          refine c0_V (As := [.int (nI i), .int 0, .int (imx 0 (((upd f (20 + 3 * i) (imx 0 (imn 100 ((f (20 + 3 * i)) + (-1))))) (19 + 3 * i)) - 2))]) (rest := []) ⟨hx, hb, hml, hown, hts⟩ (mX4_setTub l D cI cC cT cL M th nc nt (upd f (20 + 3 * i) (imx 0 (imn 100 ((f (20 + 3 * i)) + (-1))))) k g (nI i) 0 (imx 0 (((upd f (20 + 3 * i) (imx 0 (imn 100 ((f (20 + 3 * i)) + (-1))))) (19 + 3 * i)) - 2)) i 0 (19 + 3 * i) rfl rfl (by omega) (by omega)) (cwV 3 hts gX4_soften_X4_setTub rfl rfl rfl pX4_setTub ⟨Nat.le_of_ble_eq_true rfl, Nat.le_of_ble_eq_true rfl⟩) hK hP hD hS hA hST (Jn_mw) 0 rfl rfl rfl rfl hl.1 rfl (Nat.le_of_ble_eq_true rfl) dX4_soften_89 ⟨Nat.le_of_ble_eq_true rfl, Nat.le_of_ble_eq_true rfl⟩ rfl (fun H locs hP hD hS => ?_)
          exact e0_v hx hb hr hlocks (P_eq (by rw [(standm hI hi c_6 hS9).2 (by have q9 := c_71; rw [up_s] at q9; exact q9)]) hP) hS dX4_soften_92 (by decide) (by decide) (rfl)
      ·
        refine lv_iload_n hx hb dX4_soften_27 rfl (lv_at hl 2 rfl) ?_
        refine lv_bipush (v := 20) hx hb dX4_soften_28 (by decide) ?_
        refine lv_isub hx hb dX4_soften_30 ?_
        refine lv_iconst (v := 4) hx hb dX4_soften_31 (by decide) ?_
        refine lv_idiv hx hb dX4_soften_32 (by decide) ?_
        refine lv_iconst (v := 1) hx hb dX4_soften_33 (by decide) ?_
        refine lv_iadd hx hb dX4_soften_34 ?_
        refine lv_goto (tgt := 39) hx hb dX4_soften_35 (by decide) ?_
        refine lv_istore_n (lv' := [(3, .int ((((nI q) - 20) / 4) + 1)), (0, .ref (M 0)), (1, .int (nI i)), (2, .int (nI q))]) hx hb dX4_soften_39 rfl hl (by decide) rfl (fun ls hl => ?_)
        have hS9 : imx 0 (imn 100 (f (20 + 3 * i) + ((nI q - 20) / 4 + 1))) = softB (f (20 + 3 * i)) (nI q) (f 1) := by
          obtain ⟨b9, hb9, eb⟩ := of_bd (n := 100) (by decide) (hI.2.2 i hi).2
          rw [eb]
          exact softm hb9 hq _ _ (by rw [if_pos ⟨Int32.not_le.mp c_13, Int32.not_le.mp c_24⟩])
        refine lv_aload_n hx hb dX4_soften_40 rfl (lv_at hl 1 rfl) ?_
        refine lv_iload_n hx hb dX4_soften_41 rfl (lv_at hl 2 rfl) ?_
        refine lv_iconst (v := 1) hx hb dX4_soften_42 (by decide) ?_
        refine lv_iconst (v := 0) hx hb dX4_soften_43 (by decide) ?_
        refine lv_bipush (v := 100) hx hb dX4_soften_44 (by decide) ?_
        refine lv_aload_n hx hb dX4_soften_46 rfl (lv_at hl 1 rfl) ?_
        refine lv_iload_n hx hb dX4_soften_47 rfl (lv_at hl 2 rfl) ?_
        refine lv_iconst (v := 1) hx hb dX4_soften_48 (by decide) ?_
        refine c0_V (As := [.int (nI i), .int 1]) (rest := [.int 100, .int 0, .int 1, .int (nI i), .ref (M 0)]) ⟨hx, hb, hml, hown, hts⟩ (mX4_tu l D cI cC cT cL M th nc nt f k g (nI i) 1 i 1 (20 + 3 * i) rfl rfl (by omega) (by omega)) (cwV 2 hts gX4_soften_X4_tu rfl rfl rfl pX4_tu ⟨Nat.le_of_ble_eq_true rfl, Nat.le_of_ble_eq_true rfl⟩) hK hP hD hS hA hST (Jn_mw) 0 rfl rfl rfl rfl hl.1 rfl (Nat.le_of_ble_eq_true rfl) dX4_soften_49 ⟨Nat.le_of_ble_eq_true rfl, Nat.le_of_ble_eq_true rfl⟩ rfl (fun H locs hP hD hS => ?_)
        refine lv_iload_n hx hb dX4_soften_52 rfl (lv_at hl 0 rfl) ?_
        refine lv_iadd hx hb dX4_soften_53 ?_
        refine w_mmin hx hb (hml.trans hl.1.symm) hown (hts _ mlX4_soften_40) (hts _ msX4_soften_min) (hts _ miX4_soften) (hts _ mcX4_soften_min) (Nat.le_of_ble_eq_true rfl) (Nat.le_of_ble_eq_true rfl) (Nat.le_of_ble_eq_true rfl) (Nat.le_of_ble_eq_true rfl) dX4_soften_54 ?_
        refine w_mmax hx hb (hml.trans hl.1.symm) hown (hts _ mlX4_soften_70) (hts _ msX4_soften_max) (hts _ miX4_soften) (hts _ mcX4_soften_max) (Nat.le_of_ble_eq_true rfl) (Nat.le_of_ble_eq_true rfl) (Nat.le_of_ble_eq_true rfl) (Nat.le_of_ble_eq_true rfl) dX4_soften_57 ?_
        refine c0_V (As := [.int (nI i), .int 1, .int (imx 0 (imn 100 ((f (20 + 3 * i)) + ((((nI q) - 20) / 4) + 1))))]) (rest := []) ⟨hx, hb, hml, hown, hts⟩ (mX4_setTub l D cI cC cT cL M th nc nt f k g (nI i) 1 (imx 0 (imn 100 ((f (20 + 3 * i)) + ((((nI q) - 20) / 4) + 1)))) i 1 (20 + 3 * i) rfl rfl (by omega) (by omega)) (cwV 3 hts gX4_soften_X4_setTub rfl rfl rfl pX4_setTub ⟨Nat.le_of_ble_eq_true rfl, Nat.le_of_ble_eq_true rfl⟩) hK hP hD hS hA hST (Jn_mw) 0 rfl rfl rfl rfl hl.1 rfl (Nat.le_of_ble_eq_true rfl) dX4_soften_60 ⟨Nat.le_of_ble_eq_true rfl, Nat.le_of_ble_eq_true rfl⟩ rfl (fun H locs hP hD hS => ?_)
        refine lv_aload_n hx hb dX4_soften_63 rfl (lv_at hl 1 rfl) ?_
        refine lv_iload_n hx hb dX4_soften_64 rfl (lv_at hl 2 rfl) ?_
        refine lv_iconst (v := 1) hx hb dX4_soften_65 (by decide) ?_
        refine c0_V (As := [.int (nI i), .int 1]) (rest := []) ⟨hx, hb, hml, hown, hts⟩ (mX4_tu l D cI cC cT cL M th nc nt (upd f (20 + 3 * i) (imx 0 (imn 100 ((f (20 + 3 * i)) + ((((nI q) - 20) / 4) + 1))))) k g (nI i) 1 i 1 (20 + 3 * i) rfl rfl (by omega) (by omega)) (cwV 2 hts gX4_soften_X4_tu rfl rfl rfl pX4_tu ⟨Nat.le_of_ble_eq_true rfl, Nat.le_of_ble_eq_true rfl⟩) hK hP hD hS hA hST (Jn_mw) 0 rfl rfl rfl rfl hl.1 rfl (Nat.le_of_ble_eq_true rfl) dX4_soften_66 ⟨Nat.le_of_ble_eq_true rfl, Nat.le_of_ble_eq_true rfl⟩ rfl (fun H locs hP hD hS => ?_)
        refine lv_bipush (v := 100) hx hb dX4_soften_69 (by decide) ?_
        refine lv_icmp_ne (tgt := 92) hx hb dX4_soften_71 (by decide) (fun c_71 => ?_) (fun c_71 => ?_)
        ·
          exact e0_v hx hb hr hlocks (P_eq (by rw [(standm hI hi c_6 hS9).1 (fun q9 => c_71 (by rw [up_s]; exact q9))]) hP) hS dX4_soften_92 (by decide) (by decide) (rfl)
        ·
          refine lv_aload_n hx hb dX4_soften_74 rfl (lv_at hl 1 rfl) ?_
          refine lv_iload_n hx hb dX4_soften_75 rfl (lv_at hl 2 rfl) ?_
          refine lv_iconst (v := 0) hx hb dX4_soften_76 (by decide) ?_
          refine lv_iconst (v := 0) hx hb dX4_soften_77 (by decide) ?_
          refine lv_aload_n hx hb dX4_soften_78 rfl (lv_at hl 1 rfl) ?_
          refine lv_iload_n hx hb dX4_soften_79 rfl (lv_at hl 2 rfl) ?_
          refine lv_iconst (v := 0) hx hb dX4_soften_80 (by decide) ?_
          refine c0_V (As := [.int (nI i), .int 0]) (rest := [.int 0, .int 0, .int (nI i), .ref (M 0)]) ⟨hx, hb, hml, hown, hts⟩ (mX4_tu l D cI cC cT cL M th nc nt (upd f (20 + 3 * i) (imx 0 (imn 100 ((f (20 + 3 * i)) + ((((nI q) - 20) / 4) + 1))))) k g (nI i) 0 i 0 (19 + 3 * i) rfl rfl (by omega) (by omega)) (cwV 2 hts gX4_soften_X4_tu rfl rfl rfl pX4_tu ⟨Nat.le_of_ble_eq_true rfl, Nat.le_of_ble_eq_true rfl⟩) hK hP hD hS hA hST (Jn_mw) 0 rfl rfl rfl rfl hl.1 rfl (Nat.le_of_ble_eq_true rfl) dX4_soften_81 ⟨Nat.le_of_ble_eq_true rfl, Nat.le_of_ble_eq_true rfl⟩ rfl (fun H locs hP hD hS => ?_)
          refine lv_iconst (v := 2) hx hb dX4_soften_84 (by decide) ?_
          refine lv_isub hx hb dX4_soften_85 ?_
          refine w_mmax hx hb (hml.trans hl.1.symm) hown (hts _ mlX4_soften_70) (hts _ msX4_soften_max) (hts _ miX4_soften) (hts _ mcX4_soften_max) (Nat.le_of_ble_eq_true rfl) (Nat.le_of_ble_eq_true rfl) (Nat.le_of_ble_eq_true rfl) (Nat.le_of_ble_eq_true rfl) dX4_soften_86 ?_
          refine c0_V (As := [.int (nI i), .int 0, .int (imx 0 (((upd f (20 + 3 * i) (imx 0 (imn 100 ((f (20 + 3 * i)) + ((((nI q) - 20) / 4) + 1))))) (19 + 3 * i)) - 2))]) (rest := []) ⟨hx, hb, hml, hown, hts⟩ (mX4_setTub l D cI cC cT cL M th nc nt (upd f (20 + 3 * i) (imx 0 (imn 100 ((f (20 + 3 * i)) + ((((nI q) - 20) / 4) + 1))))) k g (nI i) 0 (imx 0 (((upd f (20 + 3 * i) (imx 0 (imn 100 ((f (20 + 3 * i)) + ((((nI q) - 20) / 4) + 1))))) (19 + 3 * i)) - 2)) i 0 (19 + 3 * i) rfl rfl (by omega) (by omega)) (cwV 3 hts gX4_soften_X4_setTub rfl rfl rfl pX4_setTub ⟨Nat.le_of_ble_eq_true rfl, Nat.le_of_ble_eq_true rfl⟩) hK hP hD hS hA hST (Jn_mw) 0 rfl rfl rfl rfl hl.1 rfl (Nat.le_of_ble_eq_true rfl) dX4_soften_89 ⟨Nat.le_of_ble_eq_true rfl, Nat.le_of_ble_eq_true rfl⟩ rfl (fun H locs hP hD hS => ?_)
          exact e0_v hx hb hr hlocks (P_eq (by rw [(standm hI hi c_6 hS9).2 (by have q9 := c_71; rw [up_s] at q9; exact q9)]) hP) hS dX4_soften_92 (by decide) (by decide) (rfl)
  ·
    exact e0_v hx hb hr hlocks (P_eq (by rw [← stnd_0 c_6]) hP) hS dX4_soften_9 (by decide) (by decide) (rfl)

set_option maxHeartbeats 4000000 in
set_option maxRecDepth 100000 in
theorem mX4_sell (l : Launch) (D : va_G) (cI cC cT cL : ClassId) (M : Nat → Nat) (th : Int32) (nc nt : Nat) (f k g : Nat → Int32) (hnt : nt ≤ 6) : M0 l yX4_sell wsX4_sell ({ frames := 2, cells := 0, slots := 0, locals := 44 } : Room) D (TY cI cC cT cL) [.ref (M 0)] (MW cI M th nc nt f k g) (none) (MW cI M th nc nt (sell1 nt f) k g) 0 0 := by
  refine M0_of (cc := cX4_sell) (maxL := 2) (ret := none) (by decide +kernel) rfl (Nat.le_of_ble_eq_true rfl) ?_
  intro p e s m args below meth c A0 B ls hl
  obtain ⟨hx, hb, hml, hr, hown, hts, hlocks, hK, hP, hD, hA, hST, hnm⟩ := B
  have hown : s.vm.findClass RX4 = some m.cls := hown
  have hS : va_S A0 s.heap s.heap [] := va_S.rf
  have hl : lv_has ls 2 [(0, .ref (M 0))] := hl
  refine lv_aload_n hx hb dX4_sell_0 rfl (lv_at hl 0 rfl) ?_
  refine c0_V (As := []) (rest := []) ⟨hx, hb, hml, hown, hts⟩ (mX4_nextTub l D cI cC cT cL M th nc nt f k g hnt) (cwV 0 hts gX4_sell_X4_nextTub rfl rfl rfl pX4_nextTub ⟨Nat.le_of_ble_eq_true rfl, Nat.le_of_ble_eq_true rfl⟩) hK hP hD hS hA hST (Jn_mw) 0 rfl rfl rfl rfl hl.1 rfl (Nat.le_of_ble_eq_true rfl) dX4_sell_1 ⟨Nat.le_of_ble_eq_true rfl, Nat.le_of_ble_eq_true rfl⟩ rfl (fun H locs hP hD hS => ?_)
  generalize eb : nxt f nt = bt
  refine lv_istore_n (lv' := [(1, .int bt), (0, .ref (M 0))]) hx hb dX4_sell_4 rfl hl (by decide) rfl (fun ls hl => ?_)
  refine lv_iload_n hx hb dX4_sell_5 rfl (lv_at hl 0 rfl) ?_
  refine lv_iconst (v := (-1)) hx hb dX4_sell_6 (by decide) ?_
  refine lv_icmp_eq (tgt := 19) hx hb dX4_sell_7 (by decide) (fun c_7 => ?_) (fun c_7 => ?_)
  ·
    refine lv_aload_n hx hb dX4_sell_19 rfl (lv_at hl 1 rfl) ?_
    refine w_get hx hb hts iX4_sell_X4 hown hK hP 0 rfl rfl 3 (by decide) fX4_sell_9 rfl rfl dX4_sell_20 ?_
    refine lv_bipush (v := 6) hx hb dX4_sell_23 (by decide) ?_
    refine lv_dup2_11 hx hb dX4_sell_25 rfl rfl ?_
    refine w_ild hx hb hK hP 1 0 rfl rfl 6 rfl (by decide) (by decide) (v := f 6) rfl dX4_sell_26 ?_
    refine lv_iconst (v := 1) hx hb dX4_sell_27 (by decide) ?_
    refine lv_iadd hx hb dX4_sell_28 ?_
    refine w_ist hx hb hK hP hD hS 1 0 rfl rfl 6 rfl (by decide) (by decide) (ws' := MW cI M th nc nt (upd f 6 ((f 6) + 1)) k g) rfl dX4_sell_29 (fun H locs hP hD hS => ?_)
    exact e0_v hx hb hr hlocks (P_eq (by rw [sell1, if_pos (Or.inl (eb.trans c_7))]) hP) hS dX4_sell_30 (by decide) (by decide) (rfl)
  ·
    obtain ⟨k9, hk, ek⟩ := nx_k eb.symm c_7
    subst ek
    refine lv_aload_n hx hb dX4_sell_10 rfl (lv_at hl 1 rfl) ?_
    refine w_get hx hb hts iX4_sell_X4 hown hK hP 0 rfl rfl 3 (by decide) fX4_sell_9 rfl rfl dX4_sell_11 ?_
    refine lv_iconst (v := 4) hx hb dX4_sell_14 (by decide) ?_
    refine w_ild hx hb hK hP 1 0 rfl rfl 4 rfl (by decide) (by decide) (v := f 4) rfl dX4_sell_15 ?_
    refine lv_if_ne (tgt := 31) hx hb dX4_sell_16 (by decide) (fun c_16 => ?_) (fun c_16 => ?_)
    ·
      refine lv_aload_n hx hb dX4_sell_31 rfl (lv_at hl 1 rfl) ?_
      refine w_get hx hb hts iX4_sell_X4 hown hK hP 0 rfl rfl 3 (by decide) fX4_sell_9 rfl rfl dX4_sell_32 ?_
      refine lv_iconst (v := 4) hx hb dX4_sell_35 (by decide) ?_
      refine lv_dup2_11 hx hb dX4_sell_36 rfl rfl ?_
      refine w_ild hx hb hK hP 1 0 rfl rfl 4 rfl (by decide) (by decide) (v := f 4) rfl dX4_sell_37 ?_
      refine lv_iconst (v := 1) hx hb dX4_sell_38 (by decide) ?_
      refine lv_isub hx hb dX4_sell_39 ?_
      refine w_ist hx hb hK hP hD hS 1 0 rfl rfl 4 rfl (by decide) (by decide) (ws' := MW cI M th nc nt (upd f 4 ((f 4) - 1)) k g) rfl dX4_sell_40 (fun H locs hP hD hS => ?_)
      refine lv_aload_n hx hb dX4_sell_41 rfl (lv_at hl 1 rfl) ?_
      refine w_get hx hb hts iX4_sell_X4 hown hK hP 0 rfl rfl 3 (by decide) fX4_sell_9 rfl rfl dX4_sell_42 ?_
      refine lv_iconst (v := 5) hx hb dX4_sell_45 (by decide) ?_
      refine lv_dup2_11 hx hb dX4_sell_46 rfl rfl ?_
      refine w_ild hx hb hK hP 1 0 rfl rfl 5 rfl (by decide) (by decide) (v := (upd f 4 ((f 4) - 1)) 5) rfl dX4_sell_47 ?_
      refine lv_aload_n hx hb dX4_sell_48 rfl (lv_at hl 1 rfl) ?_
      refine lv_iload_n hx hb dX4_sell_49 rfl (lv_at hl 0 rfl) ?_
      refine lv_iconst (v := 1) hx hb dX4_sell_50 (by decide) ?_
      refine c0_V (As := [.int (nI k9), .int 1]) (rest := [.int ((upd f 4 ((f 4) - 1)) 5), .int 5, .ref (M 1)]) ⟨hx, hb, hml, hown, hts⟩ (mX4_tu l D cI cC cT cL M th nc nt (upd f 4 ((f 4) - 1)) k g (nI k9) 1 k9 1 (20 + 3 * k9) rfl rfl (by omega) (by omega)) (cwV 2 hts gX4_sell_X4_tu rfl rfl rfl pX4_tu ⟨Nat.le_of_ble_eq_true rfl, Nat.le_of_ble_eq_true rfl⟩) hK hP hD hS hA hST (Jn_mw) 0 rfl rfl rfl rfl hl.1 rfl (Nat.le_of_ble_eq_true rfl) dX4_sell_51 ⟨Nat.le_of_ble_eq_true rfl, Nat.le_of_ble_eq_true rfl⟩ rfl (fun H locs hP hD hS => ?_)
      refine lv_bipush (v := 50) hx hb dX4_sell_54 (by decide) ?_
      refine lv_icmp_ge (tgt := 63) hx hb dX4_sell_56 (by decide) (fun c_56 => ?_) (fun c_56 => ?_)
      ·
        refine lv_iconst (v := 2) hx hb dX4_sell_63 (by decide) ?_
        refine lv_iadd hx hb dX4_sell_64 ?_
        refine w_ist hx hb hK hP hD hS 1 0 rfl rfl 5 rfl (by decide) (by decide) (ws' := MW cI M th nc nt (upd (upd f 4 ((f 4) - 1)) 5 (((upd f 4 ((f 4) - 1)) 5) + 2)) k g) rfl dX4_sell_65 (fun H locs hP hD hS => ?_)
        refine lv_aload_n hx hb dX4_sell_66 rfl (lv_at hl 1 rfl) ?_
        refine lv_iload_n hx hb dX4_sell_67 rfl (lv_at hl 0 rfl) ?_
        refine lv_iconst (v := 0) hx hb dX4_sell_68 (by decide) ?_
        refine lv_aload_n hx hb dX4_sell_69 rfl (lv_at hl 1 rfl) ?_
        refine lv_iload_n hx hb dX4_sell_70 rfl (lv_at hl 0 rfl) ?_
        refine lv_iconst (v := 0) hx hb dX4_sell_71 (by decide) ?_
        refine c0_V (As := [.int (nI k9), .int 0]) (rest := [.int 0, .int (nI k9), .ref (M 0)]) ⟨hx, hb, hml, hown, hts⟩ (mX4_tu l D cI cC cT cL M th nc nt (upd (upd f 4 ((f 4) - 1)) 5 (((upd f 4 ((f 4) - 1)) 5) + 2)) k g (nI k9) 0 k9 0 (19 + 3 * k9) rfl rfl (by omega) (by omega)) (cwV 2 hts gX4_sell_X4_tu rfl rfl rfl pX4_tu ⟨Nat.le_of_ble_eq_true rfl, Nat.le_of_ble_eq_true rfl⟩) hK hP hD hS hA hST (Jn_mw) 0 rfl rfl rfl rfl hl.1 rfl (Nat.le_of_ble_eq_true rfl) dX4_sell_72 ⟨Nat.le_of_ble_eq_true rfl, Nat.le_of_ble_eq_true rfl⟩ rfl (fun H locs hP hD hS => ?_)
        refine lv_iconst (v := 1) hx hb dX4_sell_75 (by decide) ?_
        refine lv_isub hx hb dX4_sell_76 ?_
        refine c0_V (As := [.int (nI k9), .int 0, .int (((upd (upd f 4 ((f 4) - 1)) 5 (((upd f 4 ((f 4) - 1)) 5) + 2)) (19 + 3 * k9)) - 1)]) (rest := []) ⟨hx, hb, hml, hown, hts⟩ (mX4_setTub l D cI cC cT cL M th nc nt (upd (upd f 4 ((f 4) - 1)) 5 (((upd f 4 ((f 4) - 1)) 5) + 2)) k g (nI k9) 0 (((upd (upd f 4 ((f 4) - 1)) 5 (((upd f 4 ((f 4) - 1)) 5) + 2)) (19 + 3 * k9)) - 1) k9 0 (19 + 3 * k9) rfl rfl (by omega) (by omega)) (cwV 3 hts gX4_sell_X4_setTub rfl rfl rfl pX4_setTub ⟨Nat.le_of_ble_eq_true rfl, Nat.le_of_ble_eq_true rfl⟩) hK hP hD hS hA hST (Jn_mw) 0 rfl rfl rfl rfl hl.1 rfl (Nat.le_of_ble_eq_true rfl) dX4_sell_77 ⟨Nat.le_of_ble_eq_true rfl, Nat.le_of_ble_eq_true rfl⟩ rfl (fun H locs hP hD hS => ?_)
        refine lv_aload_n hx hb dX4_sell_80 rfl (lv_at hl 1 rfl) ?_
        refine lv_iload_n hx hb dX4_sell_81 rfl (lv_at hl 0 rfl) ?_
        refine lv_iconst (v := 2) hx hb dX4_sell_82 (by decide) ?_
        refine lv_aload_n hx hb dX4_sell_83 rfl (lv_at hl 1 rfl) ?_
        refine lv_iload_n hx hb dX4_sell_84 rfl (lv_at hl 0 rfl) ?_
        refine lv_iconst (v := 2) hx hb dX4_sell_85 (by decide) ?_
        refine c0_V (As := [.int (nI k9), .int 2]) (rest := [.int 2, .int (nI k9), .ref (M 0)]) ⟨hx, hb, hml, hown, hts⟩ (mX4_tu l D cI cC cT cL M th nc nt (upd (upd (upd f 4 ((f 4) - 1)) 5 (((upd f 4 ((f 4) - 1)) 5) + 2)) (19 + 3 * k9) (((upd (upd f 4 ((f 4) - 1)) 5 (((upd f 4 ((f 4) - 1)) 5) + 2)) (19 + 3 * k9)) - 1)) k g (nI k9) 2 k9 2 (21 + 3 * k9) rfl rfl (by omega) (by omega)) (cwV 2 hts gX4_sell_X4_tu rfl rfl rfl pX4_tu ⟨Nat.le_of_ble_eq_true rfl, Nat.le_of_ble_eq_true rfl⟩) hK hP hD hS hA hST (Jn_mw) 0 rfl rfl rfl rfl hl.1 rfl (Nat.le_of_ble_eq_true rfl) dX4_sell_86 ⟨Nat.le_of_ble_eq_true rfl, Nat.le_of_ble_eq_true rfl⟩ rfl (fun H locs hP hD hS => ?_)
        refine lv_iconst (v := 1) hx hb dX4_sell_89 (by decide) ?_
        refine lv_iadd hx hb dX4_sell_90 ?_
        refine c0_V (As := [.int (nI k9), .int 2, .int (((upd (upd (upd f 4 ((f 4) - 1)) 5 (((upd f 4 ((f 4) - 1)) 5) + 2)) (19 + 3 * k9) (((upd (upd f 4 ((f 4) - 1)) 5 (((upd f 4 ((f 4) - 1)) 5) + 2)) (19 + 3 * k9)) - 1)) (21 + 3 * k9)) + 1)]) (rest := []) ⟨hx, hb, hml, hown, hts⟩ (mX4_setTub l D cI cC cT cL M th nc nt (upd (upd (upd f 4 ((f 4) - 1)) 5 (((upd f 4 ((f 4) - 1)) 5) + 2)) (19 + 3 * k9) (((upd (upd f 4 ((f 4) - 1)) 5 (((upd f 4 ((f 4) - 1)) 5) + 2)) (19 + 3 * k9)) - 1)) k g (nI k9) 2 (((upd (upd (upd f 4 ((f 4) - 1)) 5 (((upd f 4 ((f 4) - 1)) 5) + 2)) (19 + 3 * k9) (((upd (upd f 4 ((f 4) - 1)) 5 (((upd f 4 ((f 4) - 1)) 5) + 2)) (19 + 3 * k9)) - 1)) (21 + 3 * k9)) + 1) k9 2 (21 + 3 * k9) rfl rfl (by omega) (by omega)) (cwV 3 hts gX4_sell_X4_setTub rfl rfl rfl pX4_setTub ⟨Nat.le_of_ble_eq_true rfl, Nat.le_of_ble_eq_true rfl⟩) hK hP hD hS hA hST (Jn_mw) 0 rfl rfl rfl rfl hl.1 rfl (Nat.le_of_ble_eq_true rfl) dX4_sell_91 ⟨Nat.le_of_ble_eq_true rfl, Nat.le_of_ble_eq_true rfl⟩ rfl (fun H locs hP hD hS => ?_)
        have c9 := c_56
        rw [up_o (by omega)] at c9
        exact e0_v hx hb hr hlocks (P_eq (by rw [sellm hnt hk eb c_16 (pay := 2) (by rw [payF, if_neg (fun h => absurd h (Int32.not_lt.mpr c9))]) (by rw [up_o (k := 4) (j := 5) (by omega)])]) hP) hS dX4_sell_94 (by decide) (by decide) (rfl)
      ·
        refine lv_iconst (v := 3) hx hb dX4_sell_59 (by decide) ?_
        refine lv_goto (tgt := 64) hx hb dX4_sell_60 (by decide) ?_
        refine lv_iadd hx hb dX4_sell_64 ?_
        refine w_ist hx hb hK hP hD hS 1 0 rfl rfl 5 rfl (by decide) (by decide) (ws' := MW cI M th nc nt (upd (upd f 4 ((f 4) - 1)) 5 (((upd f 4 ((f 4) - 1)) 5) + 3)) k g) rfl dX4_sell_65 (fun H locs hP hD hS => ?_)
        refine lv_aload_n hx hb dX4_sell_66 rfl (lv_at hl 1 rfl) ?_
        refine lv_iload_n hx hb dX4_sell_67 rfl (lv_at hl 0 rfl) ?_
        refine lv_iconst (v := 0) hx hb dX4_sell_68 (by decide) ?_
        refine lv_aload_n hx hb dX4_sell_69 rfl (lv_at hl 1 rfl) ?_
        refine lv_iload_n hx hb dX4_sell_70 rfl (lv_at hl 0 rfl) ?_
        refine lv_iconst (v := 0) hx hb dX4_sell_71 (by decide) ?_
        refine c0_V (As := [.int (nI k9), .int 0]) (rest := [.int 0, .int (nI k9), .ref (M 0)]) ⟨hx, hb, hml, hown, hts⟩ (mX4_tu l D cI cC cT cL M th nc nt (upd (upd f 4 ((f 4) - 1)) 5 (((upd f 4 ((f 4) - 1)) 5) + 3)) k g (nI k9) 0 k9 0 (19 + 3 * k9) rfl rfl (by omega) (by omega)) (cwV 2 hts gX4_sell_X4_tu rfl rfl rfl pX4_tu ⟨Nat.le_of_ble_eq_true rfl, Nat.le_of_ble_eq_true rfl⟩) hK hP hD hS hA hST (Jn_mw) 0 rfl rfl rfl rfl hl.1 rfl (Nat.le_of_ble_eq_true rfl) dX4_sell_72 ⟨Nat.le_of_ble_eq_true rfl, Nat.le_of_ble_eq_true rfl⟩ rfl (fun H locs hP hD hS => ?_)
        refine lv_iconst (v := 1) hx hb dX4_sell_75 (by decide) ?_
        refine lv_isub hx hb dX4_sell_76 ?_
        refine c0_V (As := [.int (nI k9), .int 0, .int (((upd (upd f 4 ((f 4) - 1)) 5 (((upd f 4 ((f 4) - 1)) 5) + 3)) (19 + 3 * k9)) - 1)]) (rest := []) ⟨hx, hb, hml, hown, hts⟩ (mX4_setTub l D cI cC cT cL M th nc nt (upd (upd f 4 ((f 4) - 1)) 5 (((upd f 4 ((f 4) - 1)) 5) + 3)) k g (nI k9) 0 (((upd (upd f 4 ((f 4) - 1)) 5 (((upd f 4 ((f 4) - 1)) 5) + 3)) (19 + 3 * k9)) - 1) k9 0 (19 + 3 * k9) rfl rfl (by omega) (by omega)) (cwV 3 hts gX4_sell_X4_setTub rfl rfl rfl pX4_setTub ⟨Nat.le_of_ble_eq_true rfl, Nat.le_of_ble_eq_true rfl⟩) hK hP hD hS hA hST (Jn_mw) 0 rfl rfl rfl rfl hl.1 rfl (Nat.le_of_ble_eq_true rfl) dX4_sell_77 ⟨Nat.le_of_ble_eq_true rfl, Nat.le_of_ble_eq_true rfl⟩ rfl (fun H locs hP hD hS => ?_)
        refine lv_aload_n hx hb dX4_sell_80 rfl (lv_at hl 1 rfl) ?_
        refine lv_iload_n hx hb dX4_sell_81 rfl (lv_at hl 0 rfl) ?_
        refine lv_iconst (v := 2) hx hb dX4_sell_82 (by decide) ?_
        refine lv_aload_n hx hb dX4_sell_83 rfl (lv_at hl 1 rfl) ?_
        refine lv_iload_n hx hb dX4_sell_84 rfl (lv_at hl 0 rfl) ?_
        refine lv_iconst (v := 2) hx hb dX4_sell_85 (by decide) ?_
        refine c0_V (As := [.int (nI k9), .int 2]) (rest := [.int 2, .int (nI k9), .ref (M 0)]) ⟨hx, hb, hml, hown, hts⟩ (mX4_tu l D cI cC cT cL M th nc nt (upd (upd (upd f 4 ((f 4) - 1)) 5 (((upd f 4 ((f 4) - 1)) 5) + 3)) (19 + 3 * k9) (((upd (upd f 4 ((f 4) - 1)) 5 (((upd f 4 ((f 4) - 1)) 5) + 3)) (19 + 3 * k9)) - 1)) k g (nI k9) 2 k9 2 (21 + 3 * k9) rfl rfl (by omega) (by omega)) (cwV 2 hts gX4_sell_X4_tu rfl rfl rfl pX4_tu ⟨Nat.le_of_ble_eq_true rfl, Nat.le_of_ble_eq_true rfl⟩) hK hP hD hS hA hST (Jn_mw) 0 rfl rfl rfl rfl hl.1 rfl (Nat.le_of_ble_eq_true rfl) dX4_sell_86 ⟨Nat.le_of_ble_eq_true rfl, Nat.le_of_ble_eq_true rfl⟩ rfl (fun H locs hP hD hS => ?_)
        refine lv_iconst (v := 1) hx hb dX4_sell_89 (by decide) ?_
        refine lv_iadd hx hb dX4_sell_90 ?_
        refine c0_V (As := [.int (nI k9), .int 2, .int (((upd (upd (upd f 4 ((f 4) - 1)) 5 (((upd f 4 ((f 4) - 1)) 5) + 3)) (19 + 3 * k9) (((upd (upd f 4 ((f 4) - 1)) 5 (((upd f 4 ((f 4) - 1)) 5) + 3)) (19 + 3 * k9)) - 1)) (21 + 3 * k9)) + 1)]) (rest := []) ⟨hx, hb, hml, hown, hts⟩ (mX4_setTub l D cI cC cT cL M th nc nt (upd (upd (upd f 4 ((f 4) - 1)) 5 (((upd f 4 ((f 4) - 1)) 5) + 3)) (19 + 3 * k9) (((upd (upd f 4 ((f 4) - 1)) 5 (((upd f 4 ((f 4) - 1)) 5) + 3)) (19 + 3 * k9)) - 1)) k g (nI k9) 2 (((upd (upd (upd f 4 ((f 4) - 1)) 5 (((upd f 4 ((f 4) - 1)) 5) + 3)) (19 + 3 * k9) (((upd (upd f 4 ((f 4) - 1)) 5 (((upd f 4 ((f 4) - 1)) 5) + 3)) (19 + 3 * k9)) - 1)) (21 + 3 * k9)) + 1) k9 2 (21 + 3 * k9) rfl rfl (by omega) (by omega)) (cwV 3 hts gX4_sell_X4_setTub rfl rfl rfl pX4_setTub ⟨Nat.le_of_ble_eq_true rfl, Nat.le_of_ble_eq_true rfl⟩) hK hP hD hS hA hST (Jn_mw) 0 rfl rfl rfl rfl hl.1 rfl (Nat.le_of_ble_eq_true rfl) dX4_sell_91 ⟨Nat.le_of_ble_eq_true rfl, Nat.le_of_ble_eq_true rfl⟩ rfl (fun H locs hP hD hS => ?_)
        have c9 := c_56
        rw [up_o (by omega)] at c9
        exact e0_v hx hb hr hlocks (P_eq (by rw [sellm hnt hk eb c_16 (pay := 3) (by rw [payF, if_pos (Int32.not_le.mp c9)]) (by rw [up_o (k := 4) (j := 5) (by omega)])]) hP) hS dX4_sell_94 (by decide) (by decide) (rfl)
    ·
      refine lv_aload_n hx hb dX4_sell_19 rfl (lv_at hl 1 rfl) ?_
      refine w_get hx hb hts iX4_sell_X4 hown hK hP 0 rfl rfl 3 (by decide) fX4_sell_9 rfl rfl dX4_sell_20 ?_
      refine lv_bipush (v := 6) hx hb dX4_sell_23 (by decide) ?_
      refine lv_dup2_11 hx hb dX4_sell_25 rfl rfl ?_
      refine w_ild hx hb hK hP 1 0 rfl rfl 6 rfl (by decide) (by decide) (v := f 6) rfl dX4_sell_26 ?_
      refine lv_iconst (v := 1) hx hb dX4_sell_27 (by decide) ?_
      refine lv_iadd hx hb dX4_sell_28 ?_
      refine w_ist hx hb hK hP hD hS 1 0 rfl rfl 6 rfl (by decide) (by decide) (ws' := MW cI M th nc nt (upd f 6 ((f 6) + 1)) k g) rfl dX4_sell_29 (fun H locs hP hD hS => ?_)
      exact e0_v hx hb hr hlocks (P_eq (by rw [sell1, if_pos (Or.inr c_16)]) hP) hS dX4_sell_30 (by decide) (by decide) (rfl)

set_option maxHeartbeats 4000000 in
set_option maxRecDepth 100000 in
theorem mX4_hourOn (l : Launch) (D : va_G) (cI cC cT cL : ClassId) (M : Nat → Nat) (th : Int32) (nc nt : Nat) (f k g : Nat → Int32) (hnc : nc ≤ 4) (hnt : nt ≤ 6) (hI : Inv f) (hg : Gd g) (h : Nat) (hh : h < 2 ^ 30) (h0 : f 0 = nI h) : M0 l yX4_hourOn wsX4_hourOn ({ frames := 3, cells := 0, slots := 0, locals := 65 } : Room) D (TY cI cC cT cL) [.ref (M 0)] (MW cI M th nc nt f k g) (none) (MW cI M th nc nt (hourF nc nt g f) k g) 0 0 := by
  refine M0_of (cc := cX4_hourOn) (maxL := 3) (ret := none) (by decide +kernel) rfl (Nat.le_of_ble_eq_true rfl) ?_
  intro p e s m args below meth c A0 B ls hl
  obtain ⟨hx, hb, hml, hr, hown, hts, hlocks, hK, hP, hD, hA, hST, hnm⟩ := B
  have hown : s.vm.findClass RX4 = some m.cls := hown
  have hS : va_S A0 s.heap s.heap [] := va_S.rf
  have hl : lv_has ls 3 [(0, .ref (M 0))] := hl
  refine lv_aload_n hx hb dX4_hourOn_0 rfl (lv_at hl 0 rfl) ?_
  refine c0_V (As := []) (rest := []) ⟨hx, hb, hml, hown, hts⟩ (mX4_heatNow l D cI cC cT cL M th nc nt f k g h (by omega) h0) (cwV 0 hts gX4_hourOn_X4_heatNow rfl rfl rfl pX4_heatNow ⟨Nat.le_of_ble_eq_true rfl, Nat.le_of_ble_eq_true rfl⟩) hK hP hD hS hA hST (Jn_mw) 0 rfl rfl rfl rfl hl.1 rfl (Nat.le_of_ble_eq_true rfl) dX4_hourOn_1 ⟨Nat.le_of_ble_eq_true rfl, Nat.le_of_ble_eq_true rfl⟩ rfl (fun H locs hP hD hS => ?_)
  obtain ⟨q, hq, eq⟩ := of_bd (n := 40) (by decide) (hg (h / 24 % 7) (Nat.mod_lt _ (by decide)))
  have hhot : hotOf f g = nI q := by rw [hotOf, hrN, h0, nI_clamp (by omega)]; exact eq
  rw [hhot]
  refine lv_istore_n (lv' := [(1, .int (nI q)), (0, .ref (M 0))]) hx hb dX4_hourOn_4 rfl hl (by decide) rfl (fun ls hl => ?_)
  refine lv_iconst (v := 0) hx hb dX4_hourOn_5 (by decide) ?_
  refine lv_istore_n (lv' := [(2, .int 0), (1, .int (nI q)), (0, .ref (M 0))]) hx hb dX4_hourOn_6 rfl hl (by decide) rfl (fun ls hl => ?_)
  have lp0 : ∀ (n j : Nat), j + n = nc → ∀ (H : Heap) (locs : List Loc), va_P D vwCl (MW cI M th nc nt (fo (turn1 (nI q)) j f) k g) H → va_D A0 (MW cI M th nc nt (fo (turn1 (nI q)) j f) k g) → va_S A0 s.heap H locs → ∀ ls, lv_has ls 3 [(2, .int (nI j)), (1, .int (nI q)), (0, .ref (M 0))] → W p l e ({ frames := 3, cells := 0, slots := 0, locals := 65 } : Room) s m args below meth c H locs 0 0 (Q0 below D (none) (MW cI M th nc nt (hourF nc nt g f) k g) A0 args s 0 0) (F0 m 7 ls []) := by
    intro n
    induction n with
    | zero =>
      intro j hj   H locs hP hD hS ls hl
      have hje : nc = j := by omega
      subst hje
      refine lv_iload_n hx hb dX4_hourOn_7 rfl (lv_at hl 0 rfl) ?_
      refine lv_aload_n hx hb dX4_hourOn_8 rfl (lv_at hl 2 rfl) ?_
      refine w_get hx hb hts iX4_hourOn_X4 hown hK hP 0 rfl rfl 1 (by decide) fX4_hourOn_23 rfl rfl dX4_hourOn_9 ?_
      refine lv_icmp_ge (tgt := 27) hx hb dX4_hourOn_12 (by decide) (fun c_12 => ?_) (fun c_12 => ?_)
      rotate_left
      · exact absurd (Int32.le_refl _) c_12
      refine lv_iconst (v := 0) hx hb dX4_hourOn_27 (by decide) ?_
      refine lv_istore_n (lv' := [(2, .int 0), (1, .int (nI q)), (0, .ref (M 0))]) hx hb dX4_hourOn_28 rfl hl (by decide) rfl (fun ls hl => ?_)
      have lp1 : ∀ (n j : Nat), j + n = nt → ∀ (H : Heap) (locs : List Loc), va_P D vwCl (MW cI M th nc nt (fo (stand1 (nI q)) j (fo (turn1 (nI q)) nc f)) k g) H → va_D A0 (MW cI M th nc nt (fo (stand1 (nI q)) j (fo (turn1 (nI q)) nc f)) k g) → va_S A0 s.heap H locs → ∀ ls, lv_has ls 3 [(2, .int (nI j)), (1, .int (nI q)), (0, .ref (M 0))] → W p l e ({ frames := 3, cells := 0, slots := 0, locals := 65 } : Room) s m args below meth c H locs 0 0 (Q0 below D (none) (MW cI M th nc nt (hourF nc nt g f) k g) A0 args s 0 0) (F0 m 29 ls []) := by
        intro n
        induction n with
        | zero =>
          intro j hj   H locs hP hD hS ls hl
          have hje : nt = j := by omega
          subst hje
          refine lv_iload_n hx hb dX4_hourOn_29 rfl (lv_at hl 0 rfl) ?_
          refine lv_aload_n hx hb dX4_hourOn_30 rfl (lv_at hl 2 rfl) ?_
          refine w_get hx hb hts iX4_hourOn_X4 hown hK hP 0 rfl rfl 2 (by decide) fX4_hourOn_30 rfl rfl dX4_hourOn_31 ?_
          refine lv_icmp_ge (tgt := 49) hx hb dX4_hourOn_34 (by decide) (fun c_34 => ?_) (fun c_34 => ?_)
          rotate_left
          · exact absurd (Int32.le_refl _) c_34
          refine lv_aload_n hx hb dX4_hourOn_49 rfl (lv_at hl 2 rfl) ?_
          refine w_get hx hb hts iX4_hourOn_X4 hown hK hP 0 rfl rfl 3 (by decide) fX4_hourOn_9 rfl rfl dX4_hourOn_50 ?_
          refine lv_iconst (v := 0) hx hb dX4_hourOn_53 (by decide) ?_
          refine w_ild hx hb hK hP 1 0 rfl rfl 0 rfl (by decide) (by decide) (v := (fo (stand1 (nI q)) nt (fo (turn1 (nI q)) nc f)) 0) rfl dX4_hourOn_54 ?_
          refine lv_bipush (v := 24) hx hb dX4_hourOn_55 (by decide) ?_
          refine lv_irem hx hb dX4_hourOn_57 (by decide) ?_
          refine lv_bipush (v := 10) hx hb dX4_hourOn_58 (by decide) ?_
          refine lv_bipush (v := 18) hx hb dX4_hourOn_60 (by decide) ?_
          refine c0_S (As := [.int (((fo (stand1 (nI q)) nt (fo (turn1 (nI q)) nc f)) 0) - ((fo (stand1 (nI q)) nt (fo (turn1 (nI q)) nc f)) 0) / 24 * 24), .int 10, .int 18]) (rest := []) ⟨hx, hb, hml, hown, hts⟩ (mX4_isIn l D cI cC cT cL (((fo (stand1 (nI q)) nt (fo (turn1 (nI q)) nc f)) 0) - ((fo (stand1 (nI q)) nt (fo (turn1 (nI q)) nc f)) 0) / 24 * 24) 10 18) (va_cwS 3 hts gX4_hourOn_X4_isIn rfl rfl rfl pX4_isIn ⟨Nat.le_of_ble_eq_true rfl, Nat.le_of_ble_eq_true rfl⟩) hK hP hD hS hA hST (Jn_nil _) rfl hl.1 rfl (Nat.le_of_ble_eq_true rfl) dX4_hourOn_62 ⟨Nat.le_of_ble_eq_true rfl, Nat.le_of_ble_eq_true rfl⟩ rfl (fun H locs hP hD hS => ?_)
          refine lv_if_eq (tgt := 87) hx hb dX4_hourOn_65 (by decide) (fun c_65 => ?_) (fun c_65 => ?_)
          ·
            have eF : (fo (stand1 (nI q)) nt (fo (turn1 (nI q)) nc f)) = (serveF nt (nI q) (fo (stand1 (nI q)) nt (fo (turn1 (nI q)) nc f))) := by rw [serveF, if_neg (inB_f c_65)]
            have hP : va_P D vwCl (MW cI M th nc nt (serveF nt (nI q) (fo (stand1 (nI q)) nt (fo (turn1 (nI q)) nc f))) k g) H := P_eq (congrArg (fun F9 => MW cI M th nc nt F9 k g) eF) hP
            have hD : va_D A0 (MW cI M th nc nt (serveF nt (nI q) (fo (stand1 (nI q)) nt (fo (turn1 (nI q)) nc f))) k g) := D_mw hD
            refine lv_aload_n hx hb dX4_hourOn_87 rfl (lv_at hl 2 rfl) ?_
            refine w_get hx hb hts iX4_hourOn_X4 hown hK hP 0 rfl rfl 3 (by decide) fX4_hourOn_9 rfl rfl dX4_hourOn_88 ?_
            refine lv_iconst (v := 0) hx hb dX4_hourOn_91 (by decide) ?_
            refine w_ild hx hb hK hP 1 0 rfl rfl 0 rfl (by decide) (by decide) (v := (serveF nt (nI q) (fo (stand1 (nI q)) nt (fo (turn1 (nI q)) nc f))) 0) rfl dX4_hourOn_92 ?_
            refine lv_iconst (v := 4) hx hb dX4_hourOn_93 (by decide) ?_
            refine lv_irem hx hb dX4_hourOn_94 (by decide) ?_
            refine lv_if_ne (tgt := 118) hx hb dX4_hourOn_95 (by decide) (fun c_95 => ?_) (fun c_95 => ?_)
            ·
              have eF : (serveF nt (nI q) (fo (stand1 (nI q)) nt (fo (turn1 (nI q)) nc f))) = (ice1 (nI q) (serveF nt (nI q) (fo (stand1 (nI q)) nt (fo (turn1 (nI q)) nc f)))) := icem_f c_95
              have hP : va_P D vwCl (MW cI M th nc nt (ice1 (nI q) (serveF nt (nI q) (fo (stand1 (nI q)) nt (fo (turn1 (nI q)) nc f)))) k g) H := P_eq (congrArg (fun F9 => MW cI M th nc nt F9 k g) eF) hP
              have hD : va_D A0 (MW cI M th nc nt (ice1 (nI q) (serveF nt (nI q) (fo (stand1 (nI q)) nt (fo (turn1 (nI q)) nc f)))) k g) := D_mw hD
              refine lv_aload_n hx hb dX4_hourOn_118 rfl (lv_at hl 2 rfl) ?_
              refine w_get hx hb hts iX4_hourOn_X4 hown hK hP 0 rfl rfl 3 (by decide) fX4_hourOn_9 rfl rfl dX4_hourOn_119 ?_
              refine lv_iconst (v := 0) hx hb dX4_hourOn_122 (by decide) ?_
              refine lv_dup2_11 hx hb dX4_hourOn_123 rfl rfl ?_
              refine w_ild hx hb hK hP 1 0 rfl rfl 0 rfl (by decide) (by decide) (v := (ice1 (nI q) (serveF nt (nI q) (fo (stand1 (nI q)) nt (fo (turn1 (nI q)) nc f)))) 0) rfl dX4_hourOn_124 ?_
              refine lv_iconst (v := 1) hx hb dX4_hourOn_125 (by decide) ?_
              refine lv_iadd hx hb dX4_hourOn_126 ?_
              refine w_ist hx hb hK hP hD hS 1 0 rfl rfl 0 rfl (by decide) (by decide) (ws' := MW cI M th nc nt (upd (ice1 (nI q) (serveF nt (nI q) (fo (stand1 (nI q)) nt (fo (turn1 (nI q)) nc f)))) 0 (((ice1 (nI q) (serveF nt (nI q) (fo (stand1 (nI q)) nt (fo (turn1 (nI q)) nc f)))) 0) + 1)) k g) rfl dX4_hourOn_127 (fun H locs hP hD hS => ?_)
              refine lv_iconst (v := 0) hx hb dX4_hourOn_128 (by decide) ?_
              refine lv_istore_n (lv' := [(2, .int 0), (1, .int (nI q)), (0, .ref (M 0))]) hx hb dX4_hourOn_129 rfl hl (by decide) rfl (fun ls hl => ?_)
              have lp2 : ∀ (n j : Nat), j + n = nt → ∀ (H : Heap) (locs : List Loc), va_P D vwCl (MW cI M th nc nt (fo forg1 j (upd (ice1 (nI q) (serveF nt (nI q) (fo (stand1 (nI q)) nt (fo (turn1 (nI q)) nc f)))) 0 ((ice1 (nI q) (serveF nt (nI q) (fo (stand1 (nI q)) nt (fo (turn1 (nI q)) nc f)))) 0 + 1))) k g) H → va_D A0 (MW cI M th nc nt (fo forg1 j (upd (ice1 (nI q) (serveF nt (nI q) (fo (stand1 (nI q)) nt (fo (turn1 (nI q)) nc f)))) 0 ((ice1 (nI q) (serveF nt (nI q) (fo (stand1 (nI q)) nt (fo (turn1 (nI q)) nc f)))) 0 + 1))) k g) → va_S A0 s.heap H locs → ∀ ls, lv_has ls 3 [(2, .int (nI j)), (1, .int (nI q)), (0, .ref (M 0))] → W p l e ({ frames := 3, cells := 0, slots := 0, locals := 65 } : Room) s m args below meth c H locs 0 0 (Q0 below D (none) (MW cI M th nc nt (hourF nc nt g f) k g) A0 args s 0 0) (F0 m 130 ls []) := by
                intro n
                induction n with
                | zero =>
                  intro j hj   H locs hP hD hS ls hl
                  have hje : nt = j := by omega
                  subst hje
                  refine lv_iload_n hx hb dX4_hourOn_130 rfl (lv_at hl 0 rfl) ?_
                  refine lv_aload_n hx hb dX4_hourOn_131 rfl (lv_at hl 2 rfl) ?_
                  refine w_get hx hb hts iX4_hourOn_X4 hown hK hP 0 rfl rfl 2 (by decide) fX4_hourOn_30 rfl rfl dX4_hourOn_132 ?_
                  refine lv_icmp_ge (tgt := 160) hx hb dX4_hourOn_135 (by decide) (fun c_135 => ?_) (fun c_135 => ?_)
                  rotate_left
                  · exact absurd (Int32.le_refl _) c_135
                  exact e0_v hx hb hr hlocks (P_eq (by rw [hourF, hhot]; rfl) hP) hS dX4_hourOn_160 (by decide) (by decide) (rfl)
                | succ n ih =>
                  intro j hj   H locs hP hD hS ls hl
                  refine lv_iload_n hx hb dX4_hourOn_130 rfl (lv_at hl 0 rfl) ?_
                  refine lv_aload_n hx hb dX4_hourOn_131 rfl (lv_at hl 2 rfl) ?_
                  refine w_get hx hb hts iX4_hourOn_X4 hown hK hP 0 rfl rfl 2 (by decide) fX4_hourOn_30 rfl rfl dX4_hourOn_132 ?_
                  refine lv_icmp_ge (tgt := 160) hx hb dX4_hourOn_135 (by decide) (fun c_135 => ?_) (fun c_135 => ?_)
                  · exact absurd c_135 (nI_ge (by omega) (by omega))
                  refine lv_aload_n hx hb dX4_hourOn_138 rfl (lv_at hl 2 rfl) ?_
                  refine lv_iload_n hx hb dX4_hourOn_139 rfl (lv_at hl 0 rfl) ?_
                  refine lv_iconst (v := 0) hx hb dX4_hourOn_140 (by decide) ?_
                  refine c0_V (As := [.int (nI j), .int 0]) (rest := []) ⟨hx, hb, hml, hown, hts⟩ (mX4_tu l D cI cC cT cL M th nc nt (fo forg1 j (upd (ice1 (nI q) (serveF nt (nI q) (fo (stand1 (nI q)) nt (fo (turn1 (nI q)) nc f)))) 0 ((ice1 (nI q) (serveF nt (nI q) (fo (stand1 (nI q)) nt (fo (turn1 (nI q)) nc f)))) 0 + 1))) k g (nI j) 0 j 0 (19 + 3 * j) rfl rfl (by omega) (by omega)) (cwV 2 hts gX4_hourOn_X4_tu rfl rfl rfl pX4_tu ⟨Nat.le_of_ble_eq_true rfl, Nat.le_of_ble_eq_true rfl⟩) hK hP hD hS hA hST (Jn_mw) 0 rfl rfl rfl rfl hl.1 rfl (Nat.le_of_ble_eq_true rfl) dX4_hourOn_141 ⟨Nat.le_of_ble_eq_true rfl, Nat.le_of_ble_eq_true rfl⟩ rfl (fun H locs hP hD hS => ?_)
                  refine lv_if_ne (tgt := 154) hx hb dX4_hourOn_144 (by decide) (fun c_144 => ?_) (fun c_144 => ?_)
                  ·
                    have eF : (fo forg1 j (upd (ice1 (nI q) (serveF nt (nI q) (fo (stand1 (nI q)) nt (fo (turn1 (nI q)) nc f)))) 0 ((ice1 (nI q) (serveF nt (nI q) (fo (stand1 (nI q)) nt (fo (turn1 (nI q)) nc f)))) 0 + 1))) = (forg1 j (fo forg1 j (upd (ice1 (nI q) (serveF nt (nI q) (fo (stand1 (nI q)) nt (fo (turn1 (nI q)) nc f)))) 0 ((ice1 (nI q) (serveF nt (nI q) (fo (stand1 (nI q)) nt (fo (turn1 (nI q)) nc f)))) 0 + 1)))) := forgm_f c_144
                    have hP : va_P D vwCl (MW cI M th nc nt (forg1 j (fo forg1 j (upd (ice1 (nI q) (serveF nt (nI q) (fo (stand1 (nI q)) nt (fo (turn1 (nI q)) nc f)))) 0 ((ice1 (nI q) (serveF nt (nI q) (fo (stand1 (nI q)) nt (fo (turn1 (nI q)) nc f)))) 0 + 1)))) k g) H := P_eq (congrArg (fun F9 => MW cI M th nc nt F9 k g) eF) hP
                    have hD : va_D A0 (MW cI M th nc nt (forg1 j (fo forg1 j (upd (ice1 (nI q) (serveF nt (nI q) (fo (stand1 (nI q)) nt (fo (turn1 (nI q)) nc f)))) 0 ((ice1 (nI q) (serveF nt (nI q) (fo (stand1 (nI q)) nt (fo (turn1 (nI q)) nc f)))) 0 + 1)))) k g) := D_mw hD
                    refine lv_iinc (v := nI (j + 1)) (lv' := [(2, .int (nI (j + 1))), (1, .int (nI q)), (0, .ref (M 0))]) hx hb dX4_hourOn_154 hl (k := 0) rfl (nI_succ _).symm (by decide) rfl (fun ls hl => ?_)
                    refine lv_goto (tgt := 130) hx hb dX4_hourOn_157 (by decide) ?_
                    exact ih (j + 1) (by omega) _ _ hP hD hS _ (lv_sub hl [0, 1, 2] rfl)
                  ·
                    refine lv_aload_n hx hb dX4_hourOn_147 rfl (lv_at hl 2 rfl) ?_
                    refine lv_iload_n hx hb dX4_hourOn_148 rfl (lv_at hl 0 rfl) ?_
                    refine lv_iconst (v := 1) hx hb dX4_hourOn_149 (by decide) ?_
                    refine lv_iconst (v := 0) hx hb dX4_hourOn_150 (by decide) ?_
                    refine c0_V (As := [.int (nI j), .int 1, .int 0]) (rest := []) ⟨hx, hb, hml, hown, hts⟩ (mX4_setTub l D cI cC cT cL M th nc nt (fo forg1 j (upd (ice1 (nI q) (serveF nt (nI q) (fo (stand1 (nI q)) nt (fo (turn1 (nI q)) nc f)))) 0 ((ice1 (nI q) (serveF nt (nI q) (fo (stand1 (nI q)) nt (fo (turn1 (nI q)) nc f)))) 0 + 1))) k g (nI j) 1 0 j 1 (20 + 3 * j) rfl rfl (by omega) (by omega)) (cwV 3 hts gX4_hourOn_X4_setTub rfl rfl rfl pX4_setTub ⟨Nat.le_of_ble_eq_true rfl, Nat.le_of_ble_eq_true rfl⟩) hK hP hD hS hA hST (Jn_mw) 0 rfl rfl rfl rfl hl.1 rfl (Nat.le_of_ble_eq_true rfl) dX4_hourOn_151 ⟨Nat.le_of_ble_eq_true rfl, Nat.le_of_ble_eq_true rfl⟩ rfl (fun H locs hP hD hS => ?_)
                    have eF : (upd (fo forg1 j (upd (ice1 (nI q) (serveF nt (nI q) (fo (stand1 (nI q)) nt (fo (turn1 (nI q)) nc f)))) 0 ((ice1 (nI q) (serveF nt (nI q) (fo (stand1 (nI q)) nt (fo (turn1 (nI q)) nc f)))) 0 + 1))) (20 + 3 * j) 0) = (forg1 j (fo forg1 j (upd (ice1 (nI q) (serveF nt (nI q) (fo (stand1 (nI q)) nt (fo (turn1 (nI q)) nc f)))) 0 ((ice1 (nI q) (serveF nt (nI q) (fo (stand1 (nI q)) nt (fo (turn1 (nI q)) nc f)))) 0 + 1)))) := forgm_t c_144
                    have hP : va_P D vwCl (MW cI M th nc nt (forg1 j (fo forg1 j (upd (ice1 (nI q) (serveF nt (nI q) (fo (stand1 (nI q)) nt (fo (turn1 (nI q)) nc f)))) 0 ((ice1 (nI q) (serveF nt (nI q) (fo (stand1 (nI q)) nt (fo (turn1 (nI q)) nc f)))) 0 + 1)))) k g) H := P_eq (congrArg (fun F9 => MW cI M th nc nt F9 k g) eF) hP
                    have hD : va_D A0 (MW cI M th nc nt (forg1 j (fo forg1 j (upd (ice1 (nI q) (serveF nt (nI q) (fo (stand1 (nI q)) nt (fo (turn1 (nI q)) nc f)))) 0 ((ice1 (nI q) (serveF nt (nI q) (fo (stand1 (nI q)) nt (fo (turn1 (nI q)) nc f)))) 0 + 1)))) k g) := D_mw hD
                    refine lv_iinc (v := nI (j + 1)) (lv' := [(2, .int (nI (j + 1))), (1, .int (nI q)), (0, .ref (M 0))]) hx hb dX4_hourOn_154 hl (k := 0) rfl (nI_succ _).symm (by decide) rfl (fun ls hl => ?_)
                    refine lv_goto (tgt := 130) hx hb dX4_hourOn_157 (by decide) ?_
                    exact ih (j + 1) (by omega) _ _ hP hD hS _ (lv_sub hl [0, 1, 2] rfl)
              exact lp2 nt 0 (by omega) _ _ hP hD hS _ (lv_sub hl [0, 1, 2] rfl)
            ·
              refine lv_aload_n hx hb dX4_hourOn_98 rfl (lv_at hl 2 rfl) ?_
              refine w_get hx hb hts iX4_hourOn_X4 hown hK hP 0 rfl rfl 3 (by decide) fX4_hourOn_9 rfl rfl dX4_hourOn_99 ?_
              refine lv_iconst (v := 1) hx hb dX4_hourOn_102 (by decide) ?_
              refine lv_iconst (v := 0) hx hb dX4_hourOn_103 (by decide) ?_
              refine lv_aload_n hx hb dX4_hourOn_104 rfl (lv_at hl 2 rfl) ?_
              refine w_get hx hb hts iX4_hourOn_X4 hown hK hP 0 rfl rfl 3 (by decide) fX4_hourOn_9 rfl rfl dX4_hourOn_105 ?_
              refine lv_iconst (v := 1) hx hb dX4_hourOn_108 (by decide) ?_
              refine w_ild hx hb hK hP 1 0 rfl rfl 1 rfl (by decide) (by decide) (v := (serveF nt (nI q) (fo (stand1 (nI q)) nt (fo (turn1 (nI q)) nc f))) 1) rfl dX4_hourOn_109 ?_
              refine lv_iload_n hx hb dX4_hourOn_110 rfl (lv_at hl 1 rfl) ?_
              refine lv_iconst (v := 5) hx hb dX4_hourOn_111 (by decide) ?_
              refine lv_idiv hx hb dX4_hourOn_112 (by decide) ?_
              refine lv_isub hx hb dX4_hourOn_113 ?_
              refine w_mmax hx hb (hml.trans hl.1.symm) hown (hts _ mlX4_hourOn_70) (hts _ msX4_hourOn_max) (hts _ miX4_hourOn) (hts _ mcX4_hourOn_max) (Nat.le_of_ble_eq_true rfl) (Nat.le_of_ble_eq_true rfl) (Nat.le_of_ble_eq_true rfl) (Nat.le_of_ble_eq_true rfl) dX4_hourOn_114 ?_
              refine w_ist hx hb hK hP hD hS 1 0 rfl rfl 1 rfl (by decide) (by decide) (ws' := MW cI M th nc nt (upd (serveF nt (nI q) (fo (stand1 (nI q)) nt (fo (turn1 (nI q)) nc f))) 1 (imx 0 (((serveF nt (nI q) (fo (stand1 (nI q)) nt (fo (turn1 (nI q)) nc f))) 1) - ((nI q) / 5)))) k g) rfl dX4_hourOn_117 (fun H locs hP hD hS => ?_)
              have eF : (upd (serveF nt (nI q) (fo (stand1 (nI q)) nt (fo (turn1 (nI q)) nc f))) 1 (imx 0 (((serveF nt (nI q) (fo (stand1 (nI q)) nt (fo (turn1 (nI q)) nc f))) 1) - ((nI q) / 5)))) = (ice1 (nI q) (serveF nt (nI q) (fo (stand1 (nI q)) nt (fo (turn1 (nI q)) nc f)))) := icem_t c_95
              have hP : va_P D vwCl (MW cI M th nc nt (ice1 (nI q) (serveF nt (nI q) (fo (stand1 (nI q)) nt (fo (turn1 (nI q)) nc f)))) k g) H := P_eq (congrArg (fun F9 => MW cI M th nc nt F9 k g) eF) hP
              have hD : va_D A0 (MW cI M th nc nt (ice1 (nI q) (serveF nt (nI q) (fo (stand1 (nI q)) nt (fo (turn1 (nI q)) nc f)))) k g) := D_mw hD
              refine lv_aload_n hx hb dX4_hourOn_118 rfl (lv_at hl 2 rfl) ?_
              refine w_get hx hb hts iX4_hourOn_X4 hown hK hP 0 rfl rfl 3 (by decide) fX4_hourOn_9 rfl rfl dX4_hourOn_119 ?_
              refine lv_iconst (v := 0) hx hb dX4_hourOn_122 (by decide) ?_
              refine lv_dup2_11 hx hb dX4_hourOn_123 rfl rfl ?_
              refine w_ild hx hb hK hP 1 0 rfl rfl 0 rfl (by decide) (by decide) (v := (ice1 (nI q) (serveF nt (nI q) (fo (stand1 (nI q)) nt (fo (turn1 (nI q)) nc f)))) 0) rfl dX4_hourOn_124 ?_
              refine lv_iconst (v := 1) hx hb dX4_hourOn_125 (by decide) ?_
              refine lv_iadd hx hb dX4_hourOn_126 ?_
              refine w_ist hx hb hK hP hD hS 1 0 rfl rfl 0 rfl (by decide) (by decide) (ws' := MW cI M th nc nt (upd (ice1 (nI q) (serveF nt (nI q) (fo (stand1 (nI q)) nt (fo (turn1 (nI q)) nc f)))) 0 (((ice1 (nI q) (serveF nt (nI q) (fo (stand1 (nI q)) nt (fo (turn1 (nI q)) nc f)))) 0) + 1)) k g) rfl dX4_hourOn_127 (fun H locs hP hD hS => ?_)
              refine lv_iconst (v := 0) hx hb dX4_hourOn_128 (by decide) ?_
              refine lv_istore_n (lv' := [(2, .int 0), (1, .int (nI q)), (0, .ref (M 0))]) hx hb dX4_hourOn_129 rfl hl (by decide) rfl (fun ls hl => ?_)
              have lp3 : ∀ (n j : Nat), j + n = nt → ∀ (H : Heap) (locs : List Loc), va_P D vwCl (MW cI M th nc nt (fo forg1 j (upd (ice1 (nI q) (serveF nt (nI q) (fo (stand1 (nI q)) nt (fo (turn1 (nI q)) nc f)))) 0 ((ice1 (nI q) (serveF nt (nI q) (fo (stand1 (nI q)) nt (fo (turn1 (nI q)) nc f)))) 0 + 1))) k g) H → va_D A0 (MW cI M th nc nt (fo forg1 j (upd (ice1 (nI q) (serveF nt (nI q) (fo (stand1 (nI q)) nt (fo (turn1 (nI q)) nc f)))) 0 ((ice1 (nI q) (serveF nt (nI q) (fo (stand1 (nI q)) nt (fo (turn1 (nI q)) nc f)))) 0 + 1))) k g) → va_S A0 s.heap H locs → ∀ ls, lv_has ls 3 [(2, .int (nI j)), (1, .int (nI q)), (0, .ref (M 0))] → W p l e ({ frames := 3, cells := 0, slots := 0, locals := 65 } : Room) s m args below meth c H locs 0 0 (Q0 below D (none) (MW cI M th nc nt (hourF nc nt g f) k g) A0 args s 0 0) (F0 m 130 ls []) := by
                intro n
                induction n with
                | zero =>
                  intro j hj   H locs hP hD hS ls hl
                  have hje : nt = j := by omega
                  subst hje
                  refine lv_iload_n hx hb dX4_hourOn_130 rfl (lv_at hl 0 rfl) ?_
                  refine lv_aload_n hx hb dX4_hourOn_131 rfl (lv_at hl 2 rfl) ?_
                  refine w_get hx hb hts iX4_hourOn_X4 hown hK hP 0 rfl rfl 2 (by decide) fX4_hourOn_30 rfl rfl dX4_hourOn_132 ?_
                  refine lv_icmp_ge (tgt := 160) hx hb dX4_hourOn_135 (by decide) (fun c_135 => ?_) (fun c_135 => ?_)
                  rotate_left
                  · exact absurd (Int32.le_refl _) c_135
                  exact e0_v hx hb hr hlocks (P_eq (by rw [hourF, hhot]; rfl) hP) hS dX4_hourOn_160 (by decide) (by decide) (rfl)
                | succ n ih =>
                  intro j hj   H locs hP hD hS ls hl
                  refine lv_iload_n hx hb dX4_hourOn_130 rfl (lv_at hl 0 rfl) ?_
                  refine lv_aload_n hx hb dX4_hourOn_131 rfl (lv_at hl 2 rfl) ?_
                  refine w_get hx hb hts iX4_hourOn_X4 hown hK hP 0 rfl rfl 2 (by decide) fX4_hourOn_30 rfl rfl dX4_hourOn_132 ?_
                  refine lv_icmp_ge (tgt := 160) hx hb dX4_hourOn_135 (by decide) (fun c_135 => ?_) (fun c_135 => ?_)
                  · exact absurd c_135 (nI_ge (by omega) (by omega))
                  refine lv_aload_n hx hb dX4_hourOn_138 rfl (lv_at hl 2 rfl) ?_
                  refine lv_iload_n hx hb dX4_hourOn_139 rfl (lv_at hl 0 rfl) ?_
                  refine lv_iconst (v := 0) hx hb dX4_hourOn_140 (by decide) ?_
                  refine c0_V (As := [.int (nI j), .int 0]) (rest := []) ⟨hx, hb, hml, hown, hts⟩ (mX4_tu l D cI cC cT cL M th nc nt (fo forg1 j (upd (ice1 (nI q) (serveF nt (nI q) (fo (stand1 (nI q)) nt (fo (turn1 (nI q)) nc f)))) 0 ((ice1 (nI q) (serveF nt (nI q) (fo (stand1 (nI q)) nt (fo (turn1 (nI q)) nc f)))) 0 + 1))) k g (nI j) 0 j 0 (19 + 3 * j) rfl rfl (by omega) (by omega)) (cwV 2 hts gX4_hourOn_X4_tu rfl rfl rfl pX4_tu ⟨Nat.le_of_ble_eq_true rfl, Nat.le_of_ble_eq_true rfl⟩) hK hP hD hS hA hST (Jn_mw) 0 rfl rfl rfl rfl hl.1 rfl (Nat.le_of_ble_eq_true rfl) dX4_hourOn_141 ⟨Nat.le_of_ble_eq_true rfl, Nat.le_of_ble_eq_true rfl⟩ rfl (fun H locs hP hD hS => ?_)
                  refine lv_if_ne (tgt := 154) hx hb dX4_hourOn_144 (by decide) (fun c_144 => ?_) (fun c_144 => ?_)
                  ·
                    have eF : (fo forg1 j (upd (ice1 (nI q) (serveF nt (nI q) (fo (stand1 (nI q)) nt (fo (turn1 (nI q)) nc f)))) 0 ((ice1 (nI q) (serveF nt (nI q) (fo (stand1 (nI q)) nt (fo (turn1 (nI q)) nc f)))) 0 + 1))) = (forg1 j (fo forg1 j (upd (ice1 (nI q) (serveF nt (nI q) (fo (stand1 (nI q)) nt (fo (turn1 (nI q)) nc f)))) 0 ((ice1 (nI q) (serveF nt (nI q) (fo (stand1 (nI q)) nt (fo (turn1 (nI q)) nc f)))) 0 + 1)))) := forgm_f c_144
                    have hP : va_P D vwCl (MW cI M th nc nt (forg1 j (fo forg1 j (upd (ice1 (nI q) (serveF nt (nI q) (fo (stand1 (nI q)) nt (fo (turn1 (nI q)) nc f)))) 0 ((ice1 (nI q) (serveF nt (nI q) (fo (stand1 (nI q)) nt (fo (turn1 (nI q)) nc f)))) 0 + 1)))) k g) H := P_eq (congrArg (fun F9 => MW cI M th nc nt F9 k g) eF) hP
                    have hD : va_D A0 (MW cI M th nc nt (forg1 j (fo forg1 j (upd (ice1 (nI q) (serveF nt (nI q) (fo (stand1 (nI q)) nt (fo (turn1 (nI q)) nc f)))) 0 ((ice1 (nI q) (serveF nt (nI q) (fo (stand1 (nI q)) nt (fo (turn1 (nI q)) nc f)))) 0 + 1)))) k g) := D_mw hD
                    refine lv_iinc (v := nI (j + 1)) (lv' := [(2, .int (nI (j + 1))), (1, .int (nI q)), (0, .ref (M 0))]) hx hb dX4_hourOn_154 hl (k := 0) rfl (nI_succ _).symm (by decide) rfl (fun ls hl => ?_)
                    refine lv_goto (tgt := 130) hx hb dX4_hourOn_157 (by decide) ?_
                    exact ih (j + 1) (by omega) _ _ hP hD hS _ (lv_sub hl [0, 1, 2] rfl)
                  ·
                    refine lv_aload_n hx hb dX4_hourOn_147 rfl (lv_at hl 2 rfl) ?_
                    refine lv_iload_n hx hb dX4_hourOn_148 rfl (lv_at hl 0 rfl) ?_
                    refine lv_iconst (v := 1) hx hb dX4_hourOn_149 (by decide) ?_
                    refine lv_iconst (v := 0) hx hb dX4_hourOn_150 (by decide) ?_
                    refine c0_V (As := [.int (nI j), .int 1, .int 0]) (rest := []) ⟨hx, hb, hml, hown, hts⟩ (mX4_setTub l D cI cC cT cL M th nc nt (fo forg1 j (upd (ice1 (nI q) (serveF nt (nI q) (fo (stand1 (nI q)) nt (fo (turn1 (nI q)) nc f)))) 0 ((ice1 (nI q) (serveF nt (nI q) (fo (stand1 (nI q)) nt (fo (turn1 (nI q)) nc f)))) 0 + 1))) k g (nI j) 1 0 j 1 (20 + 3 * j) rfl rfl (by omega) (by omega)) (cwV 3 hts gX4_hourOn_X4_setTub rfl rfl rfl pX4_setTub ⟨Nat.le_of_ble_eq_true rfl, Nat.le_of_ble_eq_true rfl⟩) hK hP hD hS hA hST (Jn_mw) 0 rfl rfl rfl rfl hl.1 rfl (Nat.le_of_ble_eq_true rfl) dX4_hourOn_151 ⟨Nat.le_of_ble_eq_true rfl, Nat.le_of_ble_eq_true rfl⟩ rfl (fun H locs hP hD hS => ?_)
                    have eF : (upd (fo forg1 j (upd (ice1 (nI q) (serveF nt (nI q) (fo (stand1 (nI q)) nt (fo (turn1 (nI q)) nc f)))) 0 ((ice1 (nI q) (serveF nt (nI q) (fo (stand1 (nI q)) nt (fo (turn1 (nI q)) nc f)))) 0 + 1))) (20 + 3 * j) 0) = (forg1 j (fo forg1 j (upd (ice1 (nI q) (serveF nt (nI q) (fo (stand1 (nI q)) nt (fo (turn1 (nI q)) nc f)))) 0 ((ice1 (nI q) (serveF nt (nI q) (fo (stand1 (nI q)) nt (fo (turn1 (nI q)) nc f)))) 0 + 1)))) := forgm_t c_144
                    have hP : va_P D vwCl (MW cI M th nc nt (forg1 j (fo forg1 j (upd (ice1 (nI q) (serveF nt (nI q) (fo (stand1 (nI q)) nt (fo (turn1 (nI q)) nc f)))) 0 ((ice1 (nI q) (serveF nt (nI q) (fo (stand1 (nI q)) nt (fo (turn1 (nI q)) nc f)))) 0 + 1)))) k g) H := P_eq (congrArg (fun F9 => MW cI M th nc nt F9 k g) eF) hP
                    have hD : va_D A0 (MW cI M th nc nt (forg1 j (fo forg1 j (upd (ice1 (nI q) (serveF nt (nI q) (fo (stand1 (nI q)) nt (fo (turn1 (nI q)) nc f)))) 0 ((ice1 (nI q) (serveF nt (nI q) (fo (stand1 (nI q)) nt (fo (turn1 (nI q)) nc f)))) 0 + 1)))) k g) := D_mw hD
                    refine lv_iinc (v := nI (j + 1)) (lv' := [(2, .int (nI (j + 1))), (1, .int (nI q)), (0, .ref (M 0))]) hx hb dX4_hourOn_154 hl (k := 0) rfl (nI_succ _).symm (by decide) rfl (fun ls hl => ?_)
                    refine lv_goto (tgt := 130) hx hb dX4_hourOn_157 (by decide) ?_
                    exact ih (j + 1) (by omega) _ _ hP hD hS _ (lv_sub hl [0, 1, 2] rfl)
              exact lp3 nt 0 (by omega) _ _ hP hD hS _ (lv_sub hl [0, 1, 2] rfl)
          ·
            refine lv_iconst (v := 0) hx hb dX4_hourOn_68 (by decide) ?_
            refine lv_istore_n (lv' := [(2, .int 0), (1, .int (nI q)), (0, .ref (M 0))]) hx hb dX4_hourOn_69 rfl hl (by decide) rfl (fun ls hl => ?_)
            have lp4 : ∀ (n j : Nat), j + n = q / 4 → ∀ (H : Heap) (locs : List Loc), va_P D vwCl (MW cI M th nc nt (rep (sell1 nt) j (fo (stand1 (nI q)) nt (fo (turn1 (nI q)) nc f))) k g) H → va_D A0 (MW cI M th nc nt (rep (sell1 nt) j (fo (stand1 (nI q)) nt (fo (turn1 (nI q)) nc f))) k g) → va_S A0 s.heap H locs → ∀ ls, lv_has ls 3 [(2, .int (nI j)), (1, .int (nI q)), (0, .ref (M 0))] → W p l e ({ frames := 3, cells := 0, slots := 0, locals := 65 } : Room) s m args below meth c H locs 0 0 (Q0 below D (none) (MW cI M th nc nt (hourF nc nt g f) k g) A0 args s 0 0) (F0 m 70 ls []) := by
              intro n
              induction n with
              | zero =>
                intro j hj   H locs hP hD hS ls hl
                have hje : q / 4 = j := by omega
                subst hje
                refine lv_iload_n hx hb dX4_hourOn_70 rfl (lv_at hl 0 rfl) ?_
                refine lv_iload_n hx hb dX4_hourOn_71 rfl (lv_at hl 1 rfl) ?_
                refine lv_iconst (v := 4) hx hb dX4_hourOn_72 (by decide) ?_
                refine lv_idiv hx hb dX4_hourOn_73 (by decide) ?_
                rw [show nI q / 4 = nI (q / 4) from dv (d := 4) (by omega) (by decide) (by decide)]
                refine lv_icmp_ge (tgt := 87) hx hb dX4_hourOn_74 (by decide) (fun c_74 => ?_) (fun c_74 => ?_)
                rotate_left
                · exact absurd (Int32.le_refl _) c_74
                have eF : (rep (sell1 nt) (q / 4) (fo (stand1 (nI q)) nt (fo (turn1 (nI q)) nc f))) = (serveF nt (nI q) (fo (stand1 (nI q)) nt (fo (turn1 (nI q)) nc f))) := by rw [serveF, if_pos (inB_t c_65), show nI q / 4 = nI (q / 4) from dv (d := 4) (by omega) (by decide) (by decide), nI_clamp (by omega)]
                have hP : va_P D vwCl (MW cI M th nc nt (serveF nt (nI q) (fo (stand1 (nI q)) nt (fo (turn1 (nI q)) nc f))) k g) H := P_eq (congrArg (fun F9 => MW cI M th nc nt F9 k g) eF) hP
                have hD : va_D A0 (MW cI M th nc nt (serveF nt (nI q) (fo (stand1 (nI q)) nt (fo (turn1 (nI q)) nc f))) k g) := D_mw hD
                refine lv_aload_n hx hb dX4_hourOn_87 rfl (lv_at hl 2 rfl) ?_
                refine w_get hx hb hts iX4_hourOn_X4 hown hK hP 0 rfl rfl 3 (by decide) fX4_hourOn_9 rfl rfl dX4_hourOn_88 ?_
                refine lv_iconst (v := 0) hx hb dX4_hourOn_91 (by decide) ?_
                refine w_ild hx hb hK hP 1 0 rfl rfl 0 rfl (by decide) (by decide) (v := (serveF nt (nI q) (fo (stand1 (nI q)) nt (fo (turn1 (nI q)) nc f))) 0) rfl dX4_hourOn_92 ?_
                refine lv_iconst (v := 4) hx hb dX4_hourOn_93 (by decide) ?_
                refine lv_irem hx hb dX4_hourOn_94 (by decide) ?_
                refine lv_if_ne (tgt := 118) hx hb dX4_hourOn_95 (by decide) (fun c_95 => ?_) (fun c_95 => ?_)
                ·
                  have eF : (serveF nt (nI q) (fo (stand1 (nI q)) nt (fo (turn1 (nI q)) nc f))) = (ice1 (nI q) (serveF nt (nI q) (fo (stand1 (nI q)) nt (fo (turn1 (nI q)) nc f)))) := icem_f c_95
                  have hP : va_P D vwCl (MW cI M th nc nt (ice1 (nI q) (serveF nt (nI q) (fo (stand1 (nI q)) nt (fo (turn1 (nI q)) nc f)))) k g) H := P_eq (congrArg (fun F9 => MW cI M th nc nt F9 k g) eF) hP
                  have hD : va_D A0 (MW cI M th nc nt (ice1 (nI q) (serveF nt (nI q) (fo (stand1 (nI q)) nt (fo (turn1 (nI q)) nc f)))) k g) := D_mw hD
                  refine lv_aload_n hx hb dX4_hourOn_118 rfl (lv_at hl 2 rfl) ?_
                  refine w_get hx hb hts iX4_hourOn_X4 hown hK hP 0 rfl rfl 3 (by decide) fX4_hourOn_9 rfl rfl dX4_hourOn_119 ?_
                  refine lv_iconst (v := 0) hx hb dX4_hourOn_122 (by decide) ?_
                  refine lv_dup2_11 hx hb dX4_hourOn_123 rfl rfl ?_
                  refine w_ild hx hb hK hP 1 0 rfl rfl 0 rfl (by decide) (by decide) (v := (ice1 (nI q) (serveF nt (nI q) (fo (stand1 (nI q)) nt (fo (turn1 (nI q)) nc f)))) 0) rfl dX4_hourOn_124 ?_
                  refine lv_iconst (v := 1) hx hb dX4_hourOn_125 (by decide) ?_
                  refine lv_iadd hx hb dX4_hourOn_126 ?_
                  refine w_ist hx hb hK hP hD hS 1 0 rfl rfl 0 rfl (by decide) (by decide) (ws' := MW cI M th nc nt (upd (ice1 (nI q) (serveF nt (nI q) (fo (stand1 (nI q)) nt (fo (turn1 (nI q)) nc f)))) 0 (((ice1 (nI q) (serveF nt (nI q) (fo (stand1 (nI q)) nt (fo (turn1 (nI q)) nc f)))) 0) + 1)) k g) rfl dX4_hourOn_127 (fun H locs hP hD hS => ?_)
                  refine lv_iconst (v := 0) hx hb dX4_hourOn_128 (by decide) ?_
                  refine lv_istore_n (lv' := [(2, .int 0), (1, .int (nI q)), (0, .ref (M 0))]) hx hb dX4_hourOn_129 rfl hl (by decide) rfl (fun ls hl => ?_)
                  have lp5 : ∀ (n j : Nat), j + n = nt → ∀ (H : Heap) (locs : List Loc), va_P D vwCl (MW cI M th nc nt (fo forg1 j (upd (ice1 (nI q) (serveF nt (nI q) (fo (stand1 (nI q)) nt (fo (turn1 (nI q)) nc f)))) 0 ((ice1 (nI q) (serveF nt (nI q) (fo (stand1 (nI q)) nt (fo (turn1 (nI q)) nc f)))) 0 + 1))) k g) H → va_D A0 (MW cI M th nc nt (fo forg1 j (upd (ice1 (nI q) (serveF nt (nI q) (fo (stand1 (nI q)) nt (fo (turn1 (nI q)) nc f)))) 0 ((ice1 (nI q) (serveF nt (nI q) (fo (stand1 (nI q)) nt (fo (turn1 (nI q)) nc f)))) 0 + 1))) k g) → va_S A0 s.heap H locs → ∀ ls, lv_has ls 3 [(2, .int (nI j)), (1, .int (nI q)), (0, .ref (M 0))] → W p l e ({ frames := 3, cells := 0, slots := 0, locals := 65 } : Room) s m args below meth c H locs 0 0 (Q0 below D (none) (MW cI M th nc nt (hourF nc nt g f) k g) A0 args s 0 0) (F0 m 130 ls []) := by
                    intro n
                    induction n with
                    | zero =>
                      intro j hj   H locs hP hD hS ls hl
                      have hje : nt = j := by omega
                      subst hje
                      refine lv_iload_n hx hb dX4_hourOn_130 rfl (lv_at hl 0 rfl) ?_
                      refine lv_aload_n hx hb dX4_hourOn_131 rfl (lv_at hl 2 rfl) ?_
                      refine w_get hx hb hts iX4_hourOn_X4 hown hK hP 0 rfl rfl 2 (by decide) fX4_hourOn_30 rfl rfl dX4_hourOn_132 ?_
                      refine lv_icmp_ge (tgt := 160) hx hb dX4_hourOn_135 (by decide) (fun c_135 => ?_) (fun c_135 => ?_)
                      rotate_left
                      · exact absurd (Int32.le_refl _) c_135
                      exact e0_v hx hb hr hlocks (P_eq (by rw [hourF, hhot]; rfl) hP) hS dX4_hourOn_160 (by decide) (by decide) (rfl)
                    | succ n ih =>
                      intro j hj   H locs hP hD hS ls hl
                      refine lv_iload_n hx hb dX4_hourOn_130 rfl (lv_at hl 0 rfl) ?_
                      refine lv_aload_n hx hb dX4_hourOn_131 rfl (lv_at hl 2 rfl) ?_
                      refine w_get hx hb hts iX4_hourOn_X4 hown hK hP 0 rfl rfl 2 (by decide) fX4_hourOn_30 rfl rfl dX4_hourOn_132 ?_
                      refine lv_icmp_ge (tgt := 160) hx hb dX4_hourOn_135 (by decide) (fun c_135 => ?_) (fun c_135 => ?_)
                      · exact absurd c_135 (nI_ge (by omega) (by omega))
                      refine lv_aload_n hx hb dX4_hourOn_138 rfl (lv_at hl 2 rfl) ?_
                      refine lv_iload_n hx hb dX4_hourOn_139 rfl (lv_at hl 0 rfl) ?_
                      refine lv_iconst (v := 0) hx hb dX4_hourOn_140 (by decide) ?_
                      refine c0_V (As := [.int (nI j), .int 0]) (rest := []) ⟨hx, hb, hml, hown, hts⟩ (mX4_tu l D cI cC cT cL M th nc nt (fo forg1 j (upd (ice1 (nI q) (serveF nt (nI q) (fo (stand1 (nI q)) nt (fo (turn1 (nI q)) nc f)))) 0 ((ice1 (nI q) (serveF nt (nI q) (fo (stand1 (nI q)) nt (fo (turn1 (nI q)) nc f)))) 0 + 1))) k g (nI j) 0 j 0 (19 + 3 * j) rfl rfl (by omega) (by omega)) (cwV 2 hts gX4_hourOn_X4_tu rfl rfl rfl pX4_tu ⟨Nat.le_of_ble_eq_true rfl, Nat.le_of_ble_eq_true rfl⟩) hK hP hD hS hA hST (Jn_mw) 0 rfl rfl rfl rfl hl.1 rfl (Nat.le_of_ble_eq_true rfl) dX4_hourOn_141 ⟨Nat.le_of_ble_eq_true rfl, Nat.le_of_ble_eq_true rfl⟩ rfl (fun H locs hP hD hS => ?_)
                      refine lv_if_ne (tgt := 154) hx hb dX4_hourOn_144 (by decide) (fun c_144 => ?_) (fun c_144 => ?_)
                      ·
                        have eF : (fo forg1 j (upd (ice1 (nI q) (serveF nt (nI q) (fo (stand1 (nI q)) nt (fo (turn1 (nI q)) nc f)))) 0 ((ice1 (nI q) (serveF nt (nI q) (fo (stand1 (nI q)) nt (fo (turn1 (nI q)) nc f)))) 0 + 1))) = (forg1 j (fo forg1 j (upd (ice1 (nI q) (serveF nt (nI q) (fo (stand1 (nI q)) nt (fo (turn1 (nI q)) nc f)))) 0 ((ice1 (nI q) (serveF nt (nI q) (fo (stand1 (nI q)) nt (fo (turn1 (nI q)) nc f)))) 0 + 1)))) := forgm_f c_144
                        have hP : va_P D vwCl (MW cI M th nc nt (forg1 j (fo forg1 j (upd (ice1 (nI q) (serveF nt (nI q) (fo (stand1 (nI q)) nt (fo (turn1 (nI q)) nc f)))) 0 ((ice1 (nI q) (serveF nt (nI q) (fo (stand1 (nI q)) nt (fo (turn1 (nI q)) nc f)))) 0 + 1)))) k g) H := P_eq (congrArg (fun F9 => MW cI M th nc nt F9 k g) eF) hP
                        have hD : va_D A0 (MW cI M th nc nt (forg1 j (fo forg1 j (upd (ice1 (nI q) (serveF nt (nI q) (fo (stand1 (nI q)) nt (fo (turn1 (nI q)) nc f)))) 0 ((ice1 (nI q) (serveF nt (nI q) (fo (stand1 (nI q)) nt (fo (turn1 (nI q)) nc f)))) 0 + 1)))) k g) := D_mw hD
                        refine lv_iinc (v := nI (j + 1)) (lv' := [(2, .int (nI (j + 1))), (1, .int (nI q)), (0, .ref (M 0))]) hx hb dX4_hourOn_154 hl (k := 0) rfl (nI_succ _).symm (by decide) rfl (fun ls hl => ?_)
                        refine lv_goto (tgt := 130) hx hb dX4_hourOn_157 (by decide) ?_
                        exact ih (j + 1) (by omega) _ _ hP hD hS _ (lv_sub hl [0, 1, 2] rfl)
                      ·
                        refine lv_aload_n hx hb dX4_hourOn_147 rfl (lv_at hl 2 rfl) ?_
                        refine lv_iload_n hx hb dX4_hourOn_148 rfl (lv_at hl 0 rfl) ?_
                        refine lv_iconst (v := 1) hx hb dX4_hourOn_149 (by decide) ?_
                        refine lv_iconst (v := 0) hx hb dX4_hourOn_150 (by decide) ?_
                        refine c0_V (As := [.int (nI j), .int 1, .int 0]) (rest := []) ⟨hx, hb, hml, hown, hts⟩ (mX4_setTub l D cI cC cT cL M th nc nt (fo forg1 j (upd (ice1 (nI q) (serveF nt (nI q) (fo (stand1 (nI q)) nt (fo (turn1 (nI q)) nc f)))) 0 ((ice1 (nI q) (serveF nt (nI q) (fo (stand1 (nI q)) nt (fo (turn1 (nI q)) nc f)))) 0 + 1))) k g (nI j) 1 0 j 1 (20 + 3 * j) rfl rfl (by omega) (by omega)) (cwV 3 hts gX4_hourOn_X4_setTub rfl rfl rfl pX4_setTub ⟨Nat.le_of_ble_eq_true rfl, Nat.le_of_ble_eq_true rfl⟩) hK hP hD hS hA hST (Jn_mw) 0 rfl rfl rfl rfl hl.1 rfl (Nat.le_of_ble_eq_true rfl) dX4_hourOn_151 ⟨Nat.le_of_ble_eq_true rfl, Nat.le_of_ble_eq_true rfl⟩ rfl (fun H locs hP hD hS => ?_)
                        have eF : (upd (fo forg1 j (upd (ice1 (nI q) (serveF nt (nI q) (fo (stand1 (nI q)) nt (fo (turn1 (nI q)) nc f)))) 0 ((ice1 (nI q) (serveF nt (nI q) (fo (stand1 (nI q)) nt (fo (turn1 (nI q)) nc f)))) 0 + 1))) (20 + 3 * j) 0) = (forg1 j (fo forg1 j (upd (ice1 (nI q) (serveF nt (nI q) (fo (stand1 (nI q)) nt (fo (turn1 (nI q)) nc f)))) 0 ((ice1 (nI q) (serveF nt (nI q) (fo (stand1 (nI q)) nt (fo (turn1 (nI q)) nc f)))) 0 + 1)))) := forgm_t c_144
                        have hP : va_P D vwCl (MW cI M th nc nt (forg1 j (fo forg1 j (upd (ice1 (nI q) (serveF nt (nI q) (fo (stand1 (nI q)) nt (fo (turn1 (nI q)) nc f)))) 0 ((ice1 (nI q) (serveF nt (nI q) (fo (stand1 (nI q)) nt (fo (turn1 (nI q)) nc f)))) 0 + 1)))) k g) H := P_eq (congrArg (fun F9 => MW cI M th nc nt F9 k g) eF) hP
                        have hD : va_D A0 (MW cI M th nc nt (forg1 j (fo forg1 j (upd (ice1 (nI q) (serveF nt (nI q) (fo (stand1 (nI q)) nt (fo (turn1 (nI q)) nc f)))) 0 ((ice1 (nI q) (serveF nt (nI q) (fo (stand1 (nI q)) nt (fo (turn1 (nI q)) nc f)))) 0 + 1)))) k g) := D_mw hD
                        refine lv_iinc (v := nI (j + 1)) (lv' := [(2, .int (nI (j + 1))), (1, .int (nI q)), (0, .ref (M 0))]) hx hb dX4_hourOn_154 hl (k := 0) rfl (nI_succ _).symm (by decide) rfl (fun ls hl => ?_)
                        refine lv_goto (tgt := 130) hx hb dX4_hourOn_157 (by decide) ?_
                        exact ih (j + 1) (by omega) _ _ hP hD hS _ (lv_sub hl [0, 1, 2] rfl)
                  exact lp5 nt 0 (by omega) _ _ hP hD hS _ (lv_sub hl [0, 1, 2] rfl)
                ·
                  refine lv_aload_n hx hb dX4_hourOn_98 rfl (lv_at hl 2 rfl) ?_
                  refine w_get hx hb hts iX4_hourOn_X4 hown hK hP 0 rfl rfl 3 (by decide) fX4_hourOn_9 rfl rfl dX4_hourOn_99 ?_
                  refine lv_iconst (v := 1) hx hb dX4_hourOn_102 (by decide) ?_
                  refine lv_iconst (v := 0) hx hb dX4_hourOn_103 (by decide) ?_
                  refine lv_aload_n hx hb dX4_hourOn_104 rfl (lv_at hl 2 rfl) ?_
                  refine w_get hx hb hts iX4_hourOn_X4 hown hK hP 0 rfl rfl 3 (by decide) fX4_hourOn_9 rfl rfl dX4_hourOn_105 ?_
                  refine lv_iconst (v := 1) hx hb dX4_hourOn_108 (by decide) ?_
                  refine w_ild hx hb hK hP 1 0 rfl rfl 1 rfl (by decide) (by decide) (v := (serveF nt (nI q) (fo (stand1 (nI q)) nt (fo (turn1 (nI q)) nc f))) 1) rfl dX4_hourOn_109 ?_
                  refine lv_iload_n hx hb dX4_hourOn_110 rfl (lv_at hl 1 rfl) ?_
                  refine lv_iconst (v := 5) hx hb dX4_hourOn_111 (by decide) ?_
                  refine lv_idiv hx hb dX4_hourOn_112 (by decide) ?_
                  refine lv_isub hx hb dX4_hourOn_113 ?_
                  refine w_mmax hx hb (hml.trans hl.1.symm) hown (hts _ mlX4_hourOn_70) (hts _ msX4_hourOn_max) (hts _ miX4_hourOn) (hts _ mcX4_hourOn_max) (Nat.le_of_ble_eq_true rfl) (Nat.le_of_ble_eq_true rfl) (Nat.le_of_ble_eq_true rfl) (Nat.le_of_ble_eq_true rfl) dX4_hourOn_114 ?_
                  refine w_ist hx hb hK hP hD hS 1 0 rfl rfl 1 rfl (by decide) (by decide) (ws' := MW cI M th nc nt (upd (serveF nt (nI q) (fo (stand1 (nI q)) nt (fo (turn1 (nI q)) nc f))) 1 (imx 0 (((serveF nt (nI q) (fo (stand1 (nI q)) nt (fo (turn1 (nI q)) nc f))) 1) - ((nI q) / 5)))) k g) rfl dX4_hourOn_117 (fun H locs hP hD hS => ?_)
                  have eF : (upd (serveF nt (nI q) (fo (stand1 (nI q)) nt (fo (turn1 (nI q)) nc f))) 1 (imx 0 (((serveF nt (nI q) (fo (stand1 (nI q)) nt (fo (turn1 (nI q)) nc f))) 1) - ((nI q) / 5)))) = (ice1 (nI q) (serveF nt (nI q) (fo (stand1 (nI q)) nt (fo (turn1 (nI q)) nc f)))) := icem_t c_95
                  have hP : va_P D vwCl (MW cI M th nc nt (ice1 (nI q) (serveF nt (nI q) (fo (stand1 (nI q)) nt (fo (turn1 (nI q)) nc f)))) k g) H := P_eq (congrArg (fun F9 => MW cI M th nc nt F9 k g) eF) hP
                  have hD : va_D A0 (MW cI M th nc nt (ice1 (nI q) (serveF nt (nI q) (fo (stand1 (nI q)) nt (fo (turn1 (nI q)) nc f)))) k g) := D_mw hD
                  refine lv_aload_n hx hb dX4_hourOn_118 rfl (lv_at hl 2 rfl) ?_
                  refine w_get hx hb hts iX4_hourOn_X4 hown hK hP 0 rfl rfl 3 (by decide) fX4_hourOn_9 rfl rfl dX4_hourOn_119 ?_
                  refine lv_iconst (v := 0) hx hb dX4_hourOn_122 (by decide) ?_
                  refine lv_dup2_11 hx hb dX4_hourOn_123 rfl rfl ?_
                  refine w_ild hx hb hK hP 1 0 rfl rfl 0 rfl (by decide) (by decide) (v := (ice1 (nI q) (serveF nt (nI q) (fo (stand1 (nI q)) nt (fo (turn1 (nI q)) nc f)))) 0) rfl dX4_hourOn_124 ?_
                  refine lv_iconst (v := 1) hx hb dX4_hourOn_125 (by decide) ?_
                  refine lv_iadd hx hb dX4_hourOn_126 ?_
                  refine w_ist hx hb hK hP hD hS 1 0 rfl rfl 0 rfl (by decide) (by decide) (ws' := MW cI M th nc nt (upd (ice1 (nI q) (serveF nt (nI q) (fo (stand1 (nI q)) nt (fo (turn1 (nI q)) nc f)))) 0 (((ice1 (nI q) (serveF nt (nI q) (fo (stand1 (nI q)) nt (fo (turn1 (nI q)) nc f)))) 0) + 1)) k g) rfl dX4_hourOn_127 (fun H locs hP hD hS => ?_)
                  refine lv_iconst (v := 0) hx hb dX4_hourOn_128 (by decide) ?_
                  refine lv_istore_n (lv' := [(2, .int 0), (1, .int (nI q)), (0, .ref (M 0))]) hx hb dX4_hourOn_129 rfl hl (by decide) rfl (fun ls hl => ?_)
                  have lp6 : ∀ (n j : Nat), j + n = nt → ∀ (H : Heap) (locs : List Loc), va_P D vwCl (MW cI M th nc nt (fo forg1 j (upd (ice1 (nI q) (serveF nt (nI q) (fo (stand1 (nI q)) nt (fo (turn1 (nI q)) nc f)))) 0 ((ice1 (nI q) (serveF nt (nI q) (fo (stand1 (nI q)) nt (fo (turn1 (nI q)) nc f)))) 0 + 1))) k g) H → va_D A0 (MW cI M th nc nt (fo forg1 j (upd (ice1 (nI q) (serveF nt (nI q) (fo (stand1 (nI q)) nt (fo (turn1 (nI q)) nc f)))) 0 ((ice1 (nI q) (serveF nt (nI q) (fo (stand1 (nI q)) nt (fo (turn1 (nI q)) nc f)))) 0 + 1))) k g) → va_S A0 s.heap H locs → ∀ ls, lv_has ls 3 [(2, .int (nI j)), (1, .int (nI q)), (0, .ref (M 0))] → W p l e ({ frames := 3, cells := 0, slots := 0, locals := 65 } : Room) s m args below meth c H locs 0 0 (Q0 below D (none) (MW cI M th nc nt (hourF nc nt g f) k g) A0 args s 0 0) (F0 m 130 ls []) := by
                    intro n
                    induction n with
                    | zero =>
                      intro j hj   H locs hP hD hS ls hl
                      have hje : nt = j := by omega
                      subst hje
                      refine lv_iload_n hx hb dX4_hourOn_130 rfl (lv_at hl 0 rfl) ?_
                      refine lv_aload_n hx hb dX4_hourOn_131 rfl (lv_at hl 2 rfl) ?_
                      refine w_get hx hb hts iX4_hourOn_X4 hown hK hP 0 rfl rfl 2 (by decide) fX4_hourOn_30 rfl rfl dX4_hourOn_132 ?_
                      refine lv_icmp_ge (tgt := 160) hx hb dX4_hourOn_135 (by decide) (fun c_135 => ?_) (fun c_135 => ?_)
                      rotate_left
                      · exact absurd (Int32.le_refl _) c_135
                      exact e0_v hx hb hr hlocks (P_eq (by rw [hourF, hhot]; rfl) hP) hS dX4_hourOn_160 (by decide) (by decide) (rfl)
                    | succ n ih =>
                      intro j hj   H locs hP hD hS ls hl
                      refine lv_iload_n hx hb dX4_hourOn_130 rfl (lv_at hl 0 rfl) ?_
                      refine lv_aload_n hx hb dX4_hourOn_131 rfl (lv_at hl 2 rfl) ?_
                      refine w_get hx hb hts iX4_hourOn_X4 hown hK hP 0 rfl rfl 2 (by decide) fX4_hourOn_30 rfl rfl dX4_hourOn_132 ?_
                      refine lv_icmp_ge (tgt := 160) hx hb dX4_hourOn_135 (by decide) (fun c_135 => ?_) (fun c_135 => ?_)
                      · exact absurd c_135 (nI_ge (by omega) (by omega))
                      refine lv_aload_n hx hb dX4_hourOn_138 rfl (lv_at hl 2 rfl) ?_
                      refine lv_iload_n hx hb dX4_hourOn_139 rfl (lv_at hl 0 rfl) ?_
                      refine lv_iconst (v := 0) hx hb dX4_hourOn_140 (by decide) ?_
                      refine c0_V (As := [.int (nI j), .int 0]) (rest := []) ⟨hx, hb, hml, hown, hts⟩ (mX4_tu l D cI cC cT cL M th nc nt (fo forg1 j (upd (ice1 (nI q) (serveF nt (nI q) (fo (stand1 (nI q)) nt (fo (turn1 (nI q)) nc f)))) 0 ((ice1 (nI q) (serveF nt (nI q) (fo (stand1 (nI q)) nt (fo (turn1 (nI q)) nc f)))) 0 + 1))) k g (nI j) 0 j 0 (19 + 3 * j) rfl rfl (by omega) (by omega)) (cwV 2 hts gX4_hourOn_X4_tu rfl rfl rfl pX4_tu ⟨Nat.le_of_ble_eq_true rfl, Nat.le_of_ble_eq_true rfl⟩) hK hP hD hS hA hST (Jn_mw) 0 rfl rfl rfl rfl hl.1 rfl (Nat.le_of_ble_eq_true rfl) dX4_hourOn_141 ⟨Nat.le_of_ble_eq_true rfl, Nat.le_of_ble_eq_true rfl⟩ rfl (fun H locs hP hD hS => ?_)
                      refine lv_if_ne (tgt := 154) hx hb dX4_hourOn_144 (by decide) (fun c_144 => ?_) (fun c_144 => ?_)
                      ·
                        have eF : (fo forg1 j (upd (ice1 (nI q) (serveF nt (nI q) (fo (stand1 (nI q)) nt (fo (turn1 (nI q)) nc f)))) 0 ((ice1 (nI q) (serveF nt (nI q) (fo (stand1 (nI q)) nt (fo (turn1 (nI q)) nc f)))) 0 + 1))) = (forg1 j (fo forg1 j (upd (ice1 (nI q) (serveF nt (nI q) (fo (stand1 (nI q)) nt (fo (turn1 (nI q)) nc f)))) 0 ((ice1 (nI q) (serveF nt (nI q) (fo (stand1 (nI q)) nt (fo (turn1 (nI q)) nc f)))) 0 + 1)))) := forgm_f c_144
                        have hP : va_P D vwCl (MW cI M th nc nt (forg1 j (fo forg1 j (upd (ice1 (nI q) (serveF nt (nI q) (fo (stand1 (nI q)) nt (fo (turn1 (nI q)) nc f)))) 0 ((ice1 (nI q) (serveF nt (nI q) (fo (stand1 (nI q)) nt (fo (turn1 (nI q)) nc f)))) 0 + 1)))) k g) H := P_eq (congrArg (fun F9 => MW cI M th nc nt F9 k g) eF) hP
                        have hD : va_D A0 (MW cI M th nc nt (forg1 j (fo forg1 j (upd (ice1 (nI q) (serveF nt (nI q) (fo (stand1 (nI q)) nt (fo (turn1 (nI q)) nc f)))) 0 ((ice1 (nI q) (serveF nt (nI q) (fo (stand1 (nI q)) nt (fo (turn1 (nI q)) nc f)))) 0 + 1)))) k g) := D_mw hD
                        refine lv_iinc (v := nI (j + 1)) (lv' := [(2, .int (nI (j + 1))), (1, .int (nI q)), (0, .ref (M 0))]) hx hb dX4_hourOn_154 hl (k := 0) rfl (nI_succ _).symm (by decide) rfl (fun ls hl => ?_)
                        refine lv_goto (tgt := 130) hx hb dX4_hourOn_157 (by decide) ?_
                        exact ih (j + 1) (by omega) _ _ hP hD hS _ (lv_sub hl [0, 1, 2] rfl)
                      ·
                        refine lv_aload_n hx hb dX4_hourOn_147 rfl (lv_at hl 2 rfl) ?_
                        refine lv_iload_n hx hb dX4_hourOn_148 rfl (lv_at hl 0 rfl) ?_
                        refine lv_iconst (v := 1) hx hb dX4_hourOn_149 (by decide) ?_
                        refine lv_iconst (v := 0) hx hb dX4_hourOn_150 (by decide) ?_
                        refine c0_V (As := [.int (nI j), .int 1, .int 0]) (rest := []) ⟨hx, hb, hml, hown, hts⟩ (mX4_setTub l D cI cC cT cL M th nc nt (fo forg1 j (upd (ice1 (nI q) (serveF nt (nI q) (fo (stand1 (nI q)) nt (fo (turn1 (nI q)) nc f)))) 0 ((ice1 (nI q) (serveF nt (nI q) (fo (stand1 (nI q)) nt (fo (turn1 (nI q)) nc f)))) 0 + 1))) k g (nI j) 1 0 j 1 (20 + 3 * j) rfl rfl (by omega) (by omega)) (cwV 3 hts gX4_hourOn_X4_setTub rfl rfl rfl pX4_setTub ⟨Nat.le_of_ble_eq_true rfl, Nat.le_of_ble_eq_true rfl⟩) hK hP hD hS hA hST (Jn_mw) 0 rfl rfl rfl rfl hl.1 rfl (Nat.le_of_ble_eq_true rfl) dX4_hourOn_151 ⟨Nat.le_of_ble_eq_true rfl, Nat.le_of_ble_eq_true rfl⟩ rfl (fun H locs hP hD hS => ?_)
                        have eF : (upd (fo forg1 j (upd (ice1 (nI q) (serveF nt (nI q) (fo (stand1 (nI q)) nt (fo (turn1 (nI q)) nc f)))) 0 ((ice1 (nI q) (serveF nt (nI q) (fo (stand1 (nI q)) nt (fo (turn1 (nI q)) nc f)))) 0 + 1))) (20 + 3 * j) 0) = (forg1 j (fo forg1 j (upd (ice1 (nI q) (serveF nt (nI q) (fo (stand1 (nI q)) nt (fo (turn1 (nI q)) nc f)))) 0 ((ice1 (nI q) (serveF nt (nI q) (fo (stand1 (nI q)) nt (fo (turn1 (nI q)) nc f)))) 0 + 1)))) := forgm_t c_144
                        have hP : va_P D vwCl (MW cI M th nc nt (forg1 j (fo forg1 j (upd (ice1 (nI q) (serveF nt (nI q) (fo (stand1 (nI q)) nt (fo (turn1 (nI q)) nc f)))) 0 ((ice1 (nI q) (serveF nt (nI q) (fo (stand1 (nI q)) nt (fo (turn1 (nI q)) nc f)))) 0 + 1)))) k g) H := P_eq (congrArg (fun F9 => MW cI M th nc nt F9 k g) eF) hP
                        have hD : va_D A0 (MW cI M th nc nt (forg1 j (fo forg1 j (upd (ice1 (nI q) (serveF nt (nI q) (fo (stand1 (nI q)) nt (fo (turn1 (nI q)) nc f)))) 0 ((ice1 (nI q) (serveF nt (nI q) (fo (stand1 (nI q)) nt (fo (turn1 (nI q)) nc f)))) 0 + 1)))) k g) := D_mw hD
                        refine lv_iinc (v := nI (j + 1)) (lv' := [(2, .int (nI (j + 1))), (1, .int (nI q)), (0, .ref (M 0))]) hx hb dX4_hourOn_154 hl (k := 0) rfl (nI_succ _).symm (by decide) rfl (fun ls hl => ?_)
                        refine lv_goto (tgt := 130) hx hb dX4_hourOn_157 (by decide) ?_
                        exact ih (j + 1) (by omega) _ _ hP hD hS _ (lv_sub hl [0, 1, 2] rfl)
                  exact lp6 nt 0 (by omega) _ _ hP hD hS _ (lv_sub hl [0, 1, 2] rfl)
              | succ n ih =>
                intro j hj   H locs hP hD hS ls hl
                refine lv_iload_n hx hb dX4_hourOn_70 rfl (lv_at hl 0 rfl) ?_
                refine lv_iload_n hx hb dX4_hourOn_71 rfl (lv_at hl 1 rfl) ?_
                refine lv_iconst (v := 4) hx hb dX4_hourOn_72 (by decide) ?_
                refine lv_idiv hx hb dX4_hourOn_73 (by decide) ?_
                rw [show nI q / 4 = nI (q / 4) from dv (d := 4) (by omega) (by decide) (by decide)]
                refine lv_icmp_ge (tgt := 87) hx hb dX4_hourOn_74 (by decide) (fun c_74 => ?_) (fun c_74 => ?_)
                · exact absurd c_74 (nI_ge (by omega) (by omega))
                refine lv_aload_n hx hb dX4_hourOn_77 rfl (lv_at hl 2 rfl) ?_
                refine c0_V (As := []) (rest := []) ⟨hx, hb, hml, hown, hts⟩ (mX4_sell l D cI cC cT cL M th nc nt (rep (sell1 nt) j (fo (stand1 (nI q)) nt (fo (turn1 (nI q)) nc f))) k g hnt) (cwV 0 hts gX4_hourOn_X4_sell rfl rfl rfl pX4_sell ⟨Nat.le_of_ble_eq_true rfl, Nat.le_of_ble_eq_true rfl⟩) hK hP hD hS hA hST (Jn_mw) 0 rfl rfl rfl rfl hl.1 rfl (Nat.le_of_ble_eq_true rfl) dX4_hourOn_78 ⟨Nat.le_of_ble_eq_true rfl, Nat.le_of_ble_eq_true rfl⟩ rfl (fun H locs hP hD hS => ?_)
                refine lv_iinc (v := nI (j + 1)) (lv' := [(2, .int (nI (j + 1))), (1, .int (nI q)), (0, .ref (M 0))]) hx hb dX4_hourOn_81 hl (k := 0) rfl (nI_succ _).symm (by decide) rfl (fun ls hl => ?_)
                refine lv_goto (tgt := 70) hx hb dX4_hourOn_84 (by decide) ?_
                exact ih (j + 1) (by omega) _ _ hP hD hS _ (lv_sub hl [0, 1, 2] rfl)
            exact lp4 (q / 4) 0 (by omega) _ _ hP hD hS _ (lv_sub hl [0, 1, 2] rfl)
        | succ n ih =>
          intro j hj   H locs hP hD hS ls hl
          refine lv_iload_n hx hb dX4_hourOn_29 rfl (lv_at hl 0 rfl) ?_
          refine lv_aload_n hx hb dX4_hourOn_30 rfl (lv_at hl 2 rfl) ?_
          refine w_get hx hb hts iX4_hourOn_X4 hown hK hP 0 rfl rfl 2 (by decide) fX4_hourOn_30 rfl rfl dX4_hourOn_31 ?_
          refine lv_icmp_ge (tgt := 49) hx hb dX4_hourOn_34 (by decide) (fun c_34 => ?_) (fun c_34 => ?_)
          · exact absurd c_34 (nI_ge (by omega) (by omega))
          refine lv_aload_n hx hb dX4_hourOn_37 rfl (lv_at hl 2 rfl) ?_
          refine lv_iload_n hx hb dX4_hourOn_38 rfl (lv_at hl 0 rfl) ?_
          refine lv_iload_n hx hb dX4_hourOn_39 rfl (lv_at hl 1 rfl) ?_
          refine c0_V (As := [.int (nI j), .int (nI q)]) (rest := []) ⟨hx, hb, hml, hown, hts⟩ (mX4_soften l D cI cC cT cL M th nc nt (fo (stand1 (nI q)) j (fo (turn1 (nI q)) nc f)) k g j q (Inv.fo_ (N := 6) (fun f i hi h => h.stand (bd_n (n := 40) hq (by decide)) hi) (Inv.fo_ (N := 4) (fun f i hi h => h.turn (bd_n (n := 40) hq (by decide)) hi) hI nc hnc) j (by omega)) (by omega) hq) (cwV 2 hts gX4_hourOn_X4_soften rfl rfl rfl pX4_soften ⟨Nat.le_of_ble_eq_true rfl, Nat.le_of_ble_eq_true rfl⟩) hK hP hD hS hA hST (Jn_mw) 0 rfl rfl rfl rfl hl.1 rfl (Nat.le_of_ble_eq_true rfl) dX4_hourOn_40 ⟨Nat.le_of_ble_eq_true rfl, Nat.le_of_ble_eq_true rfl⟩ rfl (fun H locs hP hD hS => ?_)
          refine lv_iinc (v := nI (j + 1)) (lv' := [(2, .int (nI (j + 1))), (1, .int (nI q)), (0, .ref (M 0))]) hx hb dX4_hourOn_43 hl (k := 0) rfl (nI_succ _).symm (by decide) rfl (fun ls hl => ?_)
          refine lv_goto (tgt := 29) hx hb dX4_hourOn_46 (by decide) ?_
          exact ih (j + 1) (by omega) _ _ hP hD hS _ (lv_sub hl [0, 1, 2] rfl)
      exact lp1 nt 0 (by omega) _ _ hP hD hS _ (lv_sub hl [0, 1, 2] rfl)
    | succ n ih =>
      intro j hj   H locs hP hD hS ls hl
      refine lv_iload_n hx hb dX4_hourOn_7 rfl (lv_at hl 0 rfl) ?_
      refine lv_aload_n hx hb dX4_hourOn_8 rfl (lv_at hl 2 rfl) ?_
      refine w_get hx hb hts iX4_hourOn_X4 hown hK hP 0 rfl rfl 1 (by decide) fX4_hourOn_23 rfl rfl dX4_hourOn_9 ?_
      refine lv_icmp_ge (tgt := 27) hx hb dX4_hourOn_12 (by decide) (fun c_12 => ?_) (fun c_12 => ?_)
      · exact absurd c_12 (nI_ge (by omega) (by omega))
      refine lv_aload_n hx hb dX4_hourOn_15 rfl (lv_at hl 2 rfl) ?_
      refine lv_iload_n hx hb dX4_hourOn_16 rfl (lv_at hl 0 rfl) ?_
      refine lv_iload_n hx hb dX4_hourOn_17 rfl (lv_at hl 1 rfl) ?_
      refine c0_V (As := [.int (nI j), .int (nI q)]) (rest := []) ⟨hx, hb, hml, hown, hts⟩ (mX4_firmUp l D cI cC cT cL M th nc nt (fo (turn1 (nI q)) j f) k g j (by omega) (nI q)) (cwV 2 hts gX4_hourOn_X4_firmUp rfl rfl rfl pX4_firmUp ⟨Nat.le_of_ble_eq_true rfl, Nat.le_of_ble_eq_true rfl⟩) hK hP hD hS hA hST (Jn_mw) 0 rfl rfl rfl rfl hl.1 rfl (Nat.le_of_ble_eq_true rfl) dX4_hourOn_18 ⟨Nat.le_of_ble_eq_true rfl, Nat.le_of_ble_eq_true rfl⟩ rfl (fun H locs hP hD hS => ?_)
      refine lv_iinc (v := nI (j + 1)) (lv' := [(2, .int (nI (j + 1))), (1, .int (nI q)), (0, .ref (M 0))]) hx hb dX4_hourOn_21 hl (k := 0) rfl (nI_succ _).symm (by decide) rfl (fun ls hl => ?_)
      refine lv_goto (tgt := 7) hx hb dX4_hourOn_24 (by decide) ?_
      exact ih (j + 1) (by omega) _ _ hP hD hS _ (lv_sub hl [0, 1, 2] rfl)
  exact lp0 nc 0 (by omega) _ _ hP hD hS _ (lv_sub hl [0, 1, 2] rfl)

set_option maxHeartbeats 4000000 in
set_option maxRecDepth 100000 in
theorem mX4_keep (l : Launch) (D : va_G) (cI cC cT cL : ClassId) (M : Nat → Nat) (th : Int32) (nc nt : Nat) (f k g : Nat → Int32)  : M0 l yX4_keep wsX4_keep ({ frames := 1, cells := 0, slots := 0, locals := 80 } : Room) D (TY cI cC cT cL) [.ref (M 0)] (MW cI M th nc nt f k g) (none) (MW cI M th nc nt f (va_cpy f k 0 0 37) g) 0 0 := by
  refine M0_of (cc := cX4_keep) (maxL := 1) (ret := none) (by decide +kernel) rfl (Nat.le_of_ble_eq_true rfl) ?_
  intro p e s m args below meth c A0 B ls hl
  obtain ⟨hx, hb, hml, hr, hown, hts, hlocks, hK, hP, hD, hA, hST, hnm⟩ := B
  have hown : s.vm.findClass RX4 = some m.cls := hown
  have hS : va_S A0 s.heap s.heap [] := va_S.rf
  have hl : lv_has ls 1 [(0, .ref (M 0))] := hl
  refine lv_aload_n hx hb dX4_keep_0 rfl (lv_at hl 0 rfl) ?_
  refine w_get hx hb hts iX4_keep_X4 hown hK hP 0 rfl rfl 3 (by decide) fX4_keep_9 rfl rfl dX4_keep_1 ?_
  refine lv_iconst (v := 0) hx hb dX4_keep_4 (by decide) ?_
  refine lv_aload_n hx hb dX4_keep_5 rfl (lv_at hl 0 rfl) ?_
  refine w_get hx hb hts iX4_keep_X4 hown hK hP 0 rfl rfl 4 (by decide) fX4_keep_13 rfl rfl dX4_keep_6 ?_
  refine lv_iconst (v := 0) hx hb dX4_keep_9 (by decide) ?_
  refine lv_bipush (v := 37) hx hb dX4_keep_10 (by decide) ?_
  refine w_copy hx hb (hml.trans hl.1.symm) hown (hts _ mlX4_keep_99) (hts _ mnX4_keep) (hts _ mtX4_keep) (hts _ myX4_keep) hK hP hD hS 1 2 rfl rfl rfl (by decide) rfl (Nat.le_of_ble_eq_true rfl) (Nat.le_of_ble_eq_true rfl) (ws' := MW cI M th nc nt f (va_cpy f k 0 0 37) g) rfl dX4_keep_12 (fun H locs hP hD hS => ?_)
  exact e0_v hx hb hr hlocks hP hS dX4_keep_15 (by decide) (by decide) (rfl)

set_option maxHeartbeats 4000000 in
set_option maxRecDepth 100000 in
theorem mX4_bringBack (l : Launch) (D : va_G) (cI cC cT cL : ClassId) (M : Nat → Nat) (th : Int32) (nc nt : Nat) (f k g : Nat → Int32)  : M0 l yX4_bringBack wsX4_bringBack ({ frames := 1, cells := 0, slots := 0, locals := 80 } : Room) D (TY cI cC cT cL) [.ref (M 0)] (MW cI M th nc nt f k g) (none) (MW cI M th nc nt (va_cpy k f 0 0 37) k g) 0 0 := by
  refine M0_of (cc := cX4_bringBack) (maxL := 1) (ret := none) (by decide +kernel) rfl (Nat.le_of_ble_eq_true rfl) ?_
  intro p e s m args below meth c A0 B ls hl
  obtain ⟨hx, hb, hml, hr, hown, hts, hlocks, hK, hP, hD, hA, hST, hnm⟩ := B
  have hown : s.vm.findClass RX4 = some m.cls := hown
  have hS : va_S A0 s.heap s.heap [] := va_S.rf
  have hl : lv_has ls 1 [(0, .ref (M 0))] := hl
  refine lv_aload_n hx hb dX4_bringBack_0 rfl (lv_at hl 0 rfl) ?_
  refine w_get hx hb hts iX4_bringBack_X4 hown hK hP 0 rfl rfl 4 (by decide) fX4_bringBack_13 rfl rfl dX4_bringBack_1 ?_
  refine lv_iconst (v := 0) hx hb dX4_bringBack_4 (by decide) ?_
  refine lv_aload_n hx hb dX4_bringBack_5 rfl (lv_at hl 0 rfl) ?_
  refine w_get hx hb hts iX4_bringBack_X4 hown hK hP 0 rfl rfl 3 (by decide) fX4_bringBack_9 rfl rfl dX4_bringBack_6 ?_
  refine lv_iconst (v := 0) hx hb dX4_bringBack_9 (by decide) ?_
  refine lv_bipush (v := 37) hx hb dX4_bringBack_10 (by decide) ?_
  refine w_copy hx hb (hml.trans hl.1.symm) hown (hts _ mlX4_bringBack_99) (hts _ mnX4_bringBack) (hts _ mtX4_bringBack) (hts _ myX4_bringBack) hK hP hD hS 2 1 rfl rfl rfl (by decide) rfl (Nat.le_of_ble_eq_true rfl) (Nat.le_of_ble_eq_true rfl) (ws' := MW cI M th nc nt (va_cpy k f 0 0 37) k g) rfl dX4_bringBack_12 (fun H locs hP hD hS => ?_)
  exact e0_v hx hb hr hlocks hP hS dX4_bringBack_15 (by decide) (by decide) (rfl)
