set_option maxHeartbeats 4000000 in
set_option maxRecDepth 100000 in
theorem mX3_firmAfterHour (l : Launch) (D : va_G) (cI cC cT cL : ClassId) (a b : Int32) : M0 l yX3_firmAfterHour wsX3_firmAfterHour ({ frames := 1, cells := 0, slots := 0, locals := 21 } : Room) D (TY cI cC cT cL) [.int a, .int b] ([]) (some (.int (firmA a b))) ([]) 0 0 := by
  refine M0_of (cc := cX3_firmAfterHour) (maxL := 2) (ret := (some .int)) (by decide +kernel) rfl (Nat.le_of_ble_eq_true rfl) ?_
  intro p e s m args below meth c A0 B ls hl
  obtain ⟨hx, hb, hml, hr, hown, hts, hlocks, hK, hP, hD, hA, hST, hnm⟩ := B
  have hown : s.vm.findClass RX3 = some m.cls := hown
  have hS : va_S A0 s.heap s.heap [] := va_S.rf
  have hl : lv_has ls 2 [(0, .int a), (1, .int b)] := hl
  refine lv_bipush (v := 100) hx hb dX3_firmAfterHour_0 (by decide) ?_
  refine lv_iload_n hx hb dX3_firmAfterHour_2 rfl (lv_at hl 0 rfl) ?_
  refine lv_iload_n hx hb dX3_firmAfterHour_3 rfl (lv_at hl 1 rfl) ?_
  refine lv_iconst (v := 3) hx hb dX3_firmAfterHour_4 (by decide) ?_
  refine lv_idiv hx hb dX3_firmAfterHour_5 (by decide) ?_
  refine lv_iadd hx hb dX3_firmAfterHour_6 ?_
  refine va_mmin hx hb (hml.trans hl.1.symm) hown (hts _ mlX3_firmAfterHour_38) (hts _ msX3_firmAfterHour_min) (hts _ miX3_firmAfterHour) (hts _ mcX3_firmAfterHour_min) (Nat.le_of_ble_eq_true rfl) (Nat.le_of_ble_eq_true rfl) (Nat.le_of_ble_eq_true rfl) (Nat.le_of_ble_eq_true rfl) dX3_firmAfterHour_7 ?_
  exact e0_i hx hb hr hlocks hP hS dX3_firmAfterHour_10 (by decide) (by decide) (rfl)

set_option maxHeartbeats 4000000 in
set_option maxRecDepth 100000 in
theorem mX3_coldAfterHour (l : Launch) (D : va_G) (cI cC cT cL : ClassId) (a b : Int32) : M0 l yX3_coldAfterHour wsX3_coldAfterHour ({ frames := 1, cells := 0, slots := 0, locals := 21 } : Room) D (TY cI cC cT cL) [.int a, .int b] ([]) (some (.int (coldA a b))) ([]) 0 0 := by
  refine M0_of (cc := cX3_coldAfterHour) (maxL := 2) (ret := (some .int)) (by decide +kernel) rfl (Nat.le_of_ble_eq_true rfl) ?_
  intro p e s m args below meth c A0 B ls hl
  obtain ⟨hx, hb, hml, hr, hown, hts, hlocks, hK, hP, hD, hA, hST, hnm⟩ := B
  have hown : s.vm.findClass RX3 = some m.cls := hown
  have hS : va_S A0 s.heap s.heap [] := va_S.rf
  have hl : lv_has ls 2 [(0, .int a), (1, .int b)] := hl
  refine lv_iconst (v := 0) hx hb dX3_coldAfterHour_0 (by decide) ?_
  refine lv_iload_n hx hb dX3_coldAfterHour_1 rfl (lv_at hl 0 rfl) ?_
  refine lv_iload_n hx hb dX3_coldAfterHour_2 rfl (lv_at hl 1 rfl) ?_
  refine lv_bipush (v := 10) hx hb dX3_coldAfterHour_3 (by decide) ?_
  refine lv_idiv hx hb dX3_coldAfterHour_5 (by decide) ?_
  refine lv_isub hx hb dX3_coldAfterHour_6 ?_
  refine lv_iconst (v := 1) hx hb dX3_coldAfterHour_7 (by decide) ?_
  refine lv_isub hx hb dX3_coldAfterHour_8 ?_
  refine va_mmax hx hb (hml.trans hl.1.symm) hown (hts _ mlX3_coldAfterHour_153) (hts _ msX3_coldAfterHour_max) (hts _ miX3_coldAfterHour) (hts _ mcX3_coldAfterHour_max) (Nat.le_of_ble_eq_true rfl) (Nat.le_of_ble_eq_true rfl) (Nat.le_of_ble_eq_true rfl) (Nat.le_of_ble_eq_true rfl) dX3_coldAfterHour_9 ?_
  exact e0_i hx hb hr hlocks hP hS dX3_coldAfterHour_12 (by decide) (by decide) (rfl)

set_option maxHeartbeats 4000000 in
set_option maxRecDepth 100000 in
theorem mX3_iceAfterHour (l : Launch) (D : va_G) (cI cC cT cL : ClassId) (a b c0 : Int32) : M0 l yX3_iceAfterHour wsX3_iceAfterHour ({ frames := 1, cells := 0, slots := 0, locals := 21 } : Room) D (TY cI cC cT cL) [.int a, .int b, .int c0] ([]) (some (.int (iceA a b c0))) ([]) 0 0 := by
  refine M0_of (cc := cX3_iceAfterHour) (maxL := 3) (ret := (some .int)) (by decide +kernel) rfl (Nat.le_of_ble_eq_true rfl) ?_
  intro p e s m args below meth c A0 B ls hl
  obtain ⟨hx, hb, hml, hr, hown, hts, hlocks, hK, hP, hD, hA, hST, hnm⟩ := B
  have hown : s.vm.findClass RX3 = some m.cls := hown
  have hS : va_S A0 s.heap s.heap [] := va_S.rf
  have hl : lv_has ls 3 [(0, .int a), (1, .int b), (2, .int c0)] := hl
  refine lv_iload_n hx hb dX3_iceAfterHour_0 rfl (lv_at hl 1 rfl) ?_
  refine lv_iconst (v := 4) hx hb dX3_iceAfterHour_1 (by decide) ?_
  refine lv_irem hx hb dX3_iceAfterHour_2 (by decide) ?_
  refine lv_if_ne (tgt := 18) hx hb dX3_iceAfterHour_3 (by decide) (fun c_3 => ?_) (fun c_3 => ?_)
  ·
    refine lv_iload_n hx hb dX3_iceAfterHour_18 rfl (lv_at hl 0 rfl) ?_
    exact e0_i hx hb hr hlocks hP hS dX3_iceAfterHour_19 (by decide) (by decide) (by rw [iceA, if_neg c_3])
  ·
    refine lv_iconst (v := 0) hx hb dX3_iceAfterHour_6 (by decide) ?_
    refine lv_iload_n hx hb dX3_iceAfterHour_7 rfl (lv_at hl 0 rfl) ?_
    refine lv_iload_n hx hb dX3_iceAfterHour_8 rfl (lv_at hl 2 rfl) ?_
    refine lv_iconst (v := 5) hx hb dX3_iceAfterHour_9 (by decide) ?_
    refine lv_idiv hx hb dX3_iceAfterHour_10 (by decide) ?_
    refine lv_isub hx hb dX3_iceAfterHour_11 ?_
    refine va_mmax hx hb (hml.trans hl.1.symm) hown (hts _ mlX3_iceAfterHour_153) (hts _ msX3_iceAfterHour_max) (hts _ miX3_iceAfterHour) (hts _ mcX3_iceAfterHour_max) (Nat.le_of_ble_eq_true rfl) (Nat.le_of_ble_eq_true rfl) (Nat.le_of_ble_eq_true rfl) (Nat.le_of_ble_eq_true rfl) dX3_iceAfterHour_12 ?_
    refine lv_goto (tgt := 19) hx hb dX3_iceAfterHour_15 (by decide) ?_
    exact e0_i hx hb hr hlocks hP hS dX3_iceAfterHour_19 (by decide) (by decide) (by rw [iceA, if_pos c_3] <;> rfl)

set_option maxHeartbeats 4000000 in
set_option maxRecDepth 100000 in
theorem mX3_coldOfIce (l : Launch) (D : va_G) (cI cC cT cL : ClassId) (a : Int32) : M0 l yX3_coldOfIce wsX3_coldOfIce ({ frames := 0, cells := 0, slots := 0, locals := 0 } : Room) D (TY cI cC cT cL) [.int a] ([]) (some (.int (a / 4))) ([]) 0 0 := by
  refine M0_of (cc := cX3_coldOfIce) (maxL := 1) (ret := (some .int)) (by decide +kernel) rfl (Nat.le_of_ble_eq_true rfl) ?_
  intro p e s m args below meth c A0 B ls hl
  obtain ⟨hx, hb, hml, hr, hown, hts, hlocks, hK, hP, hD, hA, hST, hnm⟩ := B
  have hown : s.vm.findClass RX3 = some m.cls := hown
  have hS : va_S A0 s.heap s.heap [] := va_S.rf
  have hl : lv_has ls 1 [(0, .int a)] := hl
  refine lv_iload_n hx hb dX3_coldOfIce_0 rfl (lv_at hl 0 rfl) ?_
  refine lv_iconst (v := 4) hx hb dX3_coldOfIce_1 (by decide) ?_
  refine lv_idiv hx hb dX3_coldOfIce_2 (by decide) ?_
  exact e0_i hx hb hr hlocks hP hS dX3_coldOfIce_3 (by decide) (by decide) (rfl)

set_option maxHeartbeats 4000000 in
set_option maxRecDepth 100000 in
theorem mX3_coldWithBrine (l : Launch) (D : va_G) (cI cC cT cL : ClassId) (a b c0 : Int32) : M0 l yX3_coldWithBrine wsX3_coldWithBrine ({ frames := 1, cells := 0, slots := 0, locals := 29 } : Room) D (TY cI cC cT cL) [.int a, .int b, .int c0] ([]) (some (.int (brine a b c0))) ([]) 0 0 := by
  refine M0_of (cc := cX3_coldWithBrine) (maxL := 5) (ret := (some .int)) (by decide +kernel) rfl (Nat.le_of_ble_eq_true rfl) ?_
  intro p e s m args below meth c A0 B ls hl
  obtain ⟨hx, hb, hml, hr, hown, hts, hlocks, hK, hP, hD, hA, hST, hnm⟩ := B
  have hown : s.vm.findClass RX3 = some m.cls := hown
  have hS : va_S A0 s.heap s.heap [] := va_S.rf
  have hl : lv_has ls 5 [(0, .int a), (1, .int b), (2, .int c0)] := hl
  refine lv_iload_n hx hb dX3_coldWithBrine_0 rfl (lv_at hl 1 rfl) ?_
  refine c0_S (As := [.int b]) (rest := []) ⟨hx, hb, hml, hown, hts⟩ (mX3_coldOfIce l D cI cC cT cL b) (va_cwS 1 hts gX3_coldWithBrine_X3_coldOfIce rfl rfl rfl pX3_coldOfIce ⟨Nat.le_of_ble_eq_true rfl, Nat.le_of_ble_eq_true rfl⟩) hK hP hD hS hA hST (Jn_nil _) rfl hl.1 rfl (Nat.le_of_ble_eq_true rfl) dX3_coldWithBrine_1 ⟨Nat.le_of_ble_eq_true rfl, Nat.le_of_ble_eq_true rfl⟩ rfl (fun H locs hP hD hS => ?_)
  refine lv_istore_n (lv' := [(3, .int (b / 4)), (0, .int a), (1, .int b), (2, .int c0)]) hx hb dX3_coldWithBrine_4 rfl hl (by decide) rfl (fun ls hl => ?_)
  refine lv_iload_n hx hb dX3_coldWithBrine_5 rfl (lv_at hl 3 rfl) ?_
  refine lv_iconst (v := 2) hx hb dX3_coldWithBrine_6 (by decide) ?_
  refine lv_iload_n hx hb dX3_coldWithBrine_7 rfl (lv_at hl 0 rfl) ?_
  refine lv_imul hx hb dX3_coldWithBrine_8 ?_
  refine va_mmin hx hb (hml.trans hl.1.symm) hown (hts _ mlX3_coldWithBrine_38) (hts _ msX3_coldWithBrine_min) (hts _ miX3_coldWithBrine) (hts _ mcX3_coldWithBrine_min) (Nat.le_of_ble_eq_true rfl) (Nat.le_of_ble_eq_true rfl) (Nat.le_of_ble_eq_true rfl) (Nat.le_of_ble_eq_true rfl) dX3_coldWithBrine_9 ?_
  refine lv_istore (lv' := [(4, .int (imn c0 (2 * (b / 4)))), (3, .int (b / 4)), (0, .int a), (1, .int b), (2, .int c0)]) hx hb dX3_coldWithBrine_12 hl (by decide) rfl (fun ls hl => ?_)
  refine lv_bipush (v := 30) hx hb dX3_coldWithBrine_14 (by decide) ?_
  refine lv_iload_n hx hb dX3_coldWithBrine_16 rfl (lv_at hl 2 rfl) ?_
  refine lv_iload_n hx hb dX3_coldWithBrine_17 rfl (lv_at hl 1 rfl) ?_
  refine lv_iadd hx hb dX3_coldWithBrine_18 ?_
  refine lv_iload hx hb dX3_coldWithBrine_19 (lv_at hl 0 rfl) ?_
  refine lv_iadd hx hb dX3_coldWithBrine_21 ?_
  refine va_mmin hx hb (hml.trans hl.1.symm) hown (hts _ mlX3_coldWithBrine_38) (hts _ msX3_coldWithBrine_min) (hts _ miX3_coldWithBrine) (hts _ mcX3_coldWithBrine_min) (Nat.le_of_ble_eq_true rfl) (Nat.le_of_ble_eq_true rfl) (Nat.le_of_ble_eq_true rfl) (Nat.le_of_ble_eq_true rfl) dX3_coldWithBrine_22 ?_
  exact e0_i hx hb hr hlocks hP hS dX3_coldWithBrine_25 (by decide) (by decide) (rfl)

set_option maxHeartbeats 4000000 in
set_option maxRecDepth 100000 in
theorem mX3_mixed (l : Launch) (D : va_G) (cI cC cT cL : ClassId) (a b : Int64) : M0 l yX3_mixed wsX3_mixed ({ frames := 0, cells := 0, slots := 0, locals := 0 } : Room) D (TY cI cC cT cL) [.long a, .long b] ([]) (some (.long (a * 31 + b))) ([]) 0 0 := by
  refine M0_of (cc := cX3_mixed) (maxL := 4) (ret := (some .long)) (by decide +kernel) rfl (Nat.le_of_ble_eq_true rfl) ?_
  intro p e s m args below meth c A0 B ls hl
  obtain ⟨hx, hb, hml, hr, hown, hts, hlocks, hK, hP, hD, hA, hST, hnm⟩ := B
  have hown : s.vm.findClass RX3 = some m.cls := hown
  have hS : va_S A0 s.heap s.heap [] := va_S.rf
  have hl : lv_has ls 4 [(0, .long a), (2, .long b)] := hl
  refine lv_lload_n hx hb dX3_mixed_0 rfl (lv_at hl 0 rfl) ?_
  refine lv_ldc2 hx hb hown (hts _ kX3_mixed_184) dX3_mixed_1 ?_
  refine lv_lmul hx hb dX3_mixed_4 ?_
  refine lv_lload_n hx hb dX3_mixed_5 rfl (lv_at hl 1 rfl) ?_
  refine lv_ladd hx hb dX3_mixed_6 ?_
  exact e0_l hx hb hr hlocks hP hS dX3_mixed_7 (by decide) (by decide) (rfl)

set_option maxHeartbeats 4000000 in
set_option maxRecDepth 100000 in
theorem mJ9_floorMod_7cf53 (l : Launch) (D : va_G) (cI cC cT cL : ClassId) (a b : Int32) (hb0 : ¬ b = 0) : M0 l yJ9_floorMod_7cf53 wsJ9_floorMod_7cf53 ({ frames := 0, cells := 0, slots := 0, locals := 0 } : Room) D (TY cI cC cT cL) [.int a, .int b] ([]) (some (.int (fmod a b))) ([]) 0 0 := by
  refine M0_of (cc := cJ9_floorMod_7cf53) (maxL := 3) (ret := (some .int)) (by decide +kernel) rfl (Nat.le_of_ble_eq_true rfl) ?_
  intro p e s m args below meth c A0 B ls hl
  obtain ⟨hx, hb, hml, hr, hown, hts, hlocks, hK, hP, hD, hA, hST, hnm⟩ := B
  have hown : s.vm.findClass RJ9 = some m.cls := hown
  have hS : va_S A0 s.heap s.heap [] := va_S.rf
  have hl : lv_has ls 3 [(0, .int a), (1, .int b)] := hl
  refine lv_iload_n hx hb dJ9_floorMod_7cf53_0 rfl (lv_at hl 0 rfl) ?_
  refine lv_iload_n hx hb dJ9_floorMod_7cf53_1 rfl (lv_at hl 1 rfl) ?_
  refine lv_irem hx hb dJ9_floorMod_7cf53_2 hb0 ?_
  refine lv_istore_n (lv' := [(2, .int (a - a / b * b)), (0, .int a), (1, .int b)]) hx hb dJ9_floorMod_7cf53_3 rfl hl (by decide) rfl (fun ls hl => ?_)
  refine lv_iload_n hx hb dJ9_floorMod_7cf53_4 rfl (lv_at hl 1 rfl) ?_
  refine lv_iload_n hx hb dJ9_floorMod_7cf53_5 rfl (lv_at hl 2 rfl) ?_
  refine lv_ixor hx hb dJ9_floorMod_7cf53_6 ?_
  refine lv_if_ge (tgt := 18) hx hb dJ9_floorMod_7cf53_7 (by decide) (fun c_7 => ?_) (fun c_7 => ?_)
  ·
    refine lv_iload_n hx hb dJ9_floorMod_7cf53_18 rfl (lv_at hl 0 rfl) ?_
    exact e0_i hx hb hr hlocks hP hS dJ9_floorMod_7cf53_19 (by decide) (by decide) (by rw [fmod, if_pos c_7])
  ·
    refine lv_iload_n hx hb dJ9_floorMod_7cf53_10 rfl (lv_at hl 0 rfl) ?_
    refine lv_if_eq (tgt := 18) hx hb dJ9_floorMod_7cf53_11 (by decide) (fun c_11 => ?_) (fun c_11 => ?_)
    ·
      refine lv_iload_n hx hb dJ9_floorMod_7cf53_18 rfl (lv_at hl 0 rfl) ?_
      exact e0_i hx hb hr hlocks hP hS dJ9_floorMod_7cf53_19 (by decide) (by decide) (by rw [fmod, if_neg c_7, if_pos c_11])
    ·
      refine lv_iload_n hx hb dJ9_floorMod_7cf53_14 rfl (lv_at hl 0 rfl) ?_
      refine lv_iload_n hx hb dJ9_floorMod_7cf53_15 rfl (lv_at hl 2 rfl) ?_
      refine lv_iadd hx hb dJ9_floorMod_7cf53_16 ?_
      exact e0_i hx hb hr hlocks hP hS dJ9_floorMod_7cf53_17 (by decide) (by decide) (by rw [fmod, if_neg c_7, if_neg c_11])

set_option maxHeartbeats 4000000 in
set_option maxRecDepth 100000 in
theorem mX1_number_0 (l : Launch) (D : va_G) (cI cC cT cL : ClassId) (h0 : Nat) (a b d : Int32) : M0 l yX1_number wsX1_number ({ frames := 0, cells := 0, slots := 0, locals := 0 } : Room) D (TY cI cC cT cL) [.ref h0, .int 0] ([(h0, .inr (1, [.int a, .int b, .int d]))]) (some (.int a)) ([(h0, .inr (1, [.int a, .int b, .int d]))]) 0 0 := by
  refine M0_of (cc := cX1_number) (maxL := 2) (ret := (some .int)) (by decide +kernel) rfl (Nat.le_of_ble_eq_true rfl) ?_
  intro p e s m args below meth c A0 B ls hl
  obtain ⟨hx, hb, hml, hr, hown, hts, hlocks, hK, hP, hD, hA, hST, hnm⟩ := B
  have hown : s.vm.findClass RX1 = some m.cls := hown
  have hS : va_S A0 s.heap s.heap [] := va_S.rf
  have hl : lv_has ls 2 [(0, .ref h0), (1, .int 0)] := hl
  refine lv_iload_n hx hb dX1_number_0 rfl (lv_at hl 1 rfl) ?_
  refine lv_lookup (tgt := 28) hx hb dX1_number_1 (by decide) rfl (by decide) ?_
  refine lv_aload_n hx hb dX1_number_28 rfl (lv_at hl 0 rfl) ?_
  refine w_get hx hb hts iX1_number_X1 hown hK hP 0 rfl rfl 0 (by decide) fX1_number_7 rfl rfl dX1_number_29 ?_
  exact e0_i hx hb hr hlocks hP hS dX1_number_32 (by decide) (by decide) (rfl)

set_option maxHeartbeats 4000000 in
set_option maxRecDepth 100000 in
theorem mX2_number_0 (l : Launch) (D : va_G) (cI cC cT cL : ClassId) (h0 : Nat) (a b d : Int32) : M0 l yX2_number wsX2_number ({ frames := 0, cells := 0, slots := 0, locals := 0 } : Room) D (TY cI cC cT cL) [.ref h0, .int 0] ([(h0, .inr (2, [.int a, .int b, .int d]))]) (some (.int a)) ([(h0, .inr (2, [.int a, .int b, .int d]))]) 0 0 := by
  refine M0_of (cc := cX2_number) (maxL := 2) (ret := (some .int)) (by decide +kernel) rfl (Nat.le_of_ble_eq_true rfl) ?_
  intro p e s m args below meth c A0 B ls hl
  obtain ⟨hx, hb, hml, hr, hown, hts, hlocks, hK, hP, hD, hA, hST, hnm⟩ := B
  have hown : s.vm.findClass RX2 = some m.cls := hown
  have hS : va_S A0 s.heap s.heap [] := va_S.rf
  have hl : lv_has ls 2 [(0, .ref h0), (1, .int 0)] := hl
  refine lv_iload_n hx hb dX2_number_0 rfl (lv_at hl 1 rfl) ?_
  refine lv_lookup (tgt := 28) hx hb dX2_number_1 (by decide) rfl (by decide) ?_
  refine lv_aload_n hx hb dX2_number_28 rfl (lv_at hl 0 rfl) ?_
  refine w_get hx hb hts iX2_number_X2 hown hK hP 0 rfl rfl 0 (by decide) fX2_number_9 rfl rfl dX2_number_29 ?_
  exact e0_i hx hb hr hlocks hP hS dX2_number_32 (by decide) (by decide) (rfl)

set_option maxHeartbeats 4000000 in
set_option maxRecDepth 100000 in
theorem mX1_number_1 (l : Launch) (D : va_G) (cI cC cT cL : ClassId) (h0 : Nat) (a b d : Int32) : M0 l yX1_number wsX1_number ({ frames := 0, cells := 0, slots := 0, locals := 0 } : Room) D (TY cI cC cT cL) [.ref h0, .int 1] ([(h0, .inr (1, [.int a, .int b, .int d]))]) (some (.int b)) ([(h0, .inr (1, [.int a, .int b, .int d]))]) 0 0 := by
  refine M0_of (cc := cX1_number) (maxL := 2) (ret := (some .int)) (by decide +kernel) rfl (Nat.le_of_ble_eq_true rfl) ?_
  intro p e s m args below meth c A0 B ls hl
  obtain ⟨hx, hb, hml, hr, hown, hts, hlocks, hK, hP, hD, hA, hST, hnm⟩ := B
  have hown : s.vm.findClass RX1 = some m.cls := hown
  have hS : va_S A0 s.heap s.heap [] := va_S.rf
  have hl : lv_has ls 2 [(0, .ref h0), (1, .int 1)] := hl
  refine lv_iload_n hx hb dX1_number_0 rfl (lv_at hl 1 rfl) ?_
  refine lv_lookup (tgt := 33) hx hb dX1_number_1 (by decide) rfl (by decide) ?_
  refine lv_aload_n hx hb dX1_number_33 rfl (lv_at hl 0 rfl) ?_
  refine w_get hx hb hts iX1_number_X1 hown hK hP 0 rfl rfl 1 (by decide) fX1_number_13 rfl rfl dX1_number_34 ?_
  exact e0_i hx hb hr hlocks hP hS dX1_number_37 (by decide) (by decide) (rfl)

set_option maxHeartbeats 4000000 in
set_option maxRecDepth 100000 in
theorem mX2_number_1 (l : Launch) (D : va_G) (cI cC cT cL : ClassId) (h0 : Nat) (a b d : Int32) : M0 l yX2_number wsX2_number ({ frames := 0, cells := 0, slots := 0, locals := 0 } : Room) D (TY cI cC cT cL) [.ref h0, .int 1] ([(h0, .inr (2, [.int a, .int b, .int d]))]) (some (.int b)) ([(h0, .inr (2, [.int a, .int b, .int d]))]) 0 0 := by
  refine M0_of (cc := cX2_number) (maxL := 2) (ret := (some .int)) (by decide +kernel) rfl (Nat.le_of_ble_eq_true rfl) ?_
  intro p e s m args below meth c A0 B ls hl
  obtain ⟨hx, hb, hml, hr, hown, hts, hlocks, hK, hP, hD, hA, hST, hnm⟩ := B
  have hown : s.vm.findClass RX2 = some m.cls := hown
  have hS : va_S A0 s.heap s.heap [] := va_S.rf
  have hl : lv_has ls 2 [(0, .ref h0), (1, .int 1)] := hl
  refine lv_iload_n hx hb dX2_number_0 rfl (lv_at hl 1 rfl) ?_
  refine lv_lookup (tgt := 33) hx hb dX2_number_1 (by decide) rfl (by decide) ?_
  refine lv_aload_n hx hb dX2_number_33 rfl (lv_at hl 0 rfl) ?_
  refine w_get hx hb hts iX2_number_X2 hown hK hP 0 rfl rfl 1 (by decide) fX2_number_15 rfl rfl dX2_number_34 ?_
  exact e0_i hx hb hr hlocks hP hS dX2_number_37 (by decide) (by decide) (rfl)

set_option maxHeartbeats 4000000 in
set_option maxRecDepth 100000 in
theorem mX1_number_2 (l : Launch) (D : va_G) (cI cC cT cL : ClassId) (h0 : Nat) (a b d : Int32) : M0 l yX1_number wsX1_number ({ frames := 0, cells := 0, slots := 0, locals := 0 } : Room) D (TY cI cC cT cL) [.ref h0, .int 2] ([(h0, .inr (1, [.int a, .int b, .int d]))]) (some (.int d)) ([(h0, .inr (1, [.int a, .int b, .int d]))]) 0 0 := by
  refine M0_of (cc := cX1_number) (maxL := 2) (ret := (some .int)) (by decide +kernel) rfl (Nat.le_of_ble_eq_true rfl) ?_
  intro p e s m args below meth c A0 B ls hl
  obtain ⟨hx, hb, hml, hr, hown, hts, hlocks, hK, hP, hD, hA, hST, hnm⟩ := B
  have hown : s.vm.findClass RX1 = some m.cls := hown
  have hS : va_S A0 s.heap s.heap [] := va_S.rf
  have hl : lv_has ls 2 [(0, .ref h0), (1, .int 2)] := hl
  refine lv_iload_n hx hb dX1_number_0 rfl (lv_at hl 1 rfl) ?_
  refine lv_lookup (tgt := 38) hx hb dX1_number_1 (by decide) rfl (by decide) ?_
  refine lv_aload_n hx hb dX1_number_38 rfl (lv_at hl 0 rfl) ?_
  refine w_get hx hb hts iX1_number_X1 hown hK hP 0 rfl rfl 2 (by decide) fX1_number_16 rfl rfl dX1_number_39 ?_
  exact e0_i hx hb hr hlocks hP hS dX1_number_42 (by decide) (by decide) (rfl)

set_option maxHeartbeats 4000000 in
set_option maxRecDepth 100000 in
theorem mX2_number_2 (l : Launch) (D : va_G) (cI cC cT cL : ClassId) (h0 : Nat) (a b d : Int32) : M0 l yX2_number wsX2_number ({ frames := 0, cells := 0, slots := 0, locals := 0 } : Room) D (TY cI cC cT cL) [.ref h0, .int 2] ([(h0, .inr (2, [.int a, .int b, .int d]))]) (some (.int d)) ([(h0, .inr (2, [.int a, .int b, .int d]))]) 0 0 := by
  refine M0_of (cc := cX2_number) (maxL := 2) (ret := (some .int)) (by decide +kernel) rfl (Nat.le_of_ble_eq_true rfl) ?_
  intro p e s m args below meth c A0 B ls hl
  obtain ⟨hx, hb, hml, hr, hown, hts, hlocks, hK, hP, hD, hA, hST, hnm⟩ := B
  have hown : s.vm.findClass RX2 = some m.cls := hown
  have hS : va_S A0 s.heap s.heap [] := va_S.rf
  have hl : lv_has ls 2 [(0, .ref h0), (1, .int 2)] := hl
  refine lv_iload_n hx hb dX2_number_0 rfl (lv_at hl 1 rfl) ?_
  refine lv_lookup (tgt := 38) hx hb dX2_number_1 (by decide) rfl (by decide) ?_
  refine lv_aload_n hx hb dX2_number_38 rfl (lv_at hl 0 rfl) ?_
  refine w_get hx hb hts iX2_number_X2 hown hK hP 0 rfl rfl 2 (by decide) fX2_number_18 rfl rfl dX2_number_39 ?_
  exact e0_i hx hb hr hlocks hP hS dX2_number_42 (by decide) (by decide) (rfl)

theorem mX1_number (l : Launch) (D : va_G) (cI cC cT cL : ClassId) (h0 : Nat) (a b d : Int32) (w : Nat) (hw : w < 3) : M0 l yX1_number wsX1_number ({ frames := 0, cells := 0, slots := 0, locals := 0 } : Room) D (TY cI cC cT cL) [.ref h0, .int (nI w)] [(h0, .inr (1, [.int a, .int b, .int d]))] (some (.int (pick3 w a b d))) [(h0, .inr (1, [.int a, .int b, .int d]))] 0 0 := by
  match w, hw with
  | 0, _ => exact mX1_number_0 l D cI cC cT cL h0 a b d
  | 1, _ => exact mX1_number_1 l D cI cC cT cL h0 a b d
  | 2, _ => exact mX1_number_2 l D cI cC cT cL h0 a b d

theorem mX2_number (l : Launch) (D : va_G) (cI cC cT cL : ClassId) (h0 : Nat) (a b d : Int32) (w : Nat) (hw : w < 3) : M0 l yX2_number wsX2_number ({ frames := 0, cells := 0, slots := 0, locals := 0 } : Room) D (TY cI cC cT cL) [.ref h0, .int (nI w)] [(h0, .inr (2, [.int a, .int b, .int d]))] (some (.int (pick3 w a b d))) [(h0, .inr (2, [.int a, .int b, .int d]))] 0 0 := by
  match w, hw with
  | 0, _ => exact mX2_number_0 l D cI cC cT cL h0 a b d
  | 1, _ => exact mX2_number_1 l D cI cC cT cL h0 a b d
  | 2, _ => exact mX2_number_2 l D cI cC cT cL h0 a b d

set_option maxHeartbeats 4000000 in
set_option maxRecDepth 100000 in
theorem mX1_add (l : Launch) (D : va_G) (cI cC cT cL : ClassId) (h0 : Nat) (a b d m0 : Int32) : M0 l yX1_add wsX1_add ({ frames := 0, cells := 0, slots := 0, locals := 0 } : Room) D (TY cI cC cT cL) [.ref h0, .int m0] ([(h0, .inr (1, [.int a, .int b, .int d]))]) (none) ([(h0, .inr (1, [.int a, .int (b + m0), .int (addF a b d m0)]))]) 0 0 := by
  refine M0_of (cc := cX1_add) (maxL := 3) (ret := none) (by decide +kernel) rfl (Nat.le_of_ble_eq_true rfl) ?_
  intro p e s m args below meth c A0 B ls hl
  obtain ⟨hx, hb, hml, hr, hown, hts, hlocks, hK, hP, hD, hA, hST, hnm⟩ := B
  have hown : s.vm.findClass RX1 = some m.cls := hown
  have hS : va_S A0 s.heap s.heap [] := va_S.rf
  have hl : lv_has ls 3 [(0, .ref h0), (1, .int m0)] := hl
  refine lv_aload_n hx hb dX1_add_0 rfl (lv_at hl 0 rfl) ?_
  refine w_get hx hb hts iX1_add_X1 hown hK hP 0 rfl rfl 1 (by decide) fX1_add_13 rfl rfl dX1_add_1 ?_
  refine lv_istore_n (lv' := [(2, .int b), (0, .ref h0), (1, .int m0)]) hx hb dX1_add_4 rfl hl (by decide) rfl (fun ls hl => ?_)
  refine lv_aload_n hx hb dX1_add_5 rfl (lv_at hl 1 rfl) ?_
  refine lv_iload_n hx hb dX1_add_6 rfl (lv_at hl 0 rfl) ?_
  refine lv_iload_n hx hb dX1_add_7 rfl (lv_at hl 2 rfl) ?_
  refine lv_iadd hx hb dX1_add_8 ?_
  refine w_put (C := RX1) hx hb hts iX1_add_X1 tyX1_ok nmX1 hown hK hP hD hS 0 rfl rfl 1 (by decide) fX1_add_13 rfl rfl rfl rfl (Nat.le_of_ble_eq_true rfl) (ws' := [(h0, .inr (1, [.int a, .int (b + m0), .int d]))]) rfl dX1_add_9 (fun H locs hP hD hS => ?_)
  refine lv_aload_n hx hb dX1_add_12 rfl (lv_at hl 1 rfl) ?_
  refine lv_aload_n hx hb dX1_add_13 rfl (lv_at hl 1 rfl) ?_
  refine w_get hx hb hts iX1_add_X1 hown hK hP 0 rfl rfl 1 (by decide) fX1_add_13 rfl rfl dX1_add_14 ?_
  refine lv_if_ne (tgt := 24) hx hb dX1_add_17 (by decide) (fun c_17 => ?_) (fun c_17 => ?_)
  ·
    refine lv_aload_n hx hb dX1_add_24 rfl (lv_at hl 1 rfl) ?_
    refine w_get hx hb hts iX1_add_X1 hown hK hP 0 rfl rfl 2 (by decide) fX1_add_16 rfl rfl dX1_add_25 ?_
    refine lv_iload_n hx hb dX1_add_28 rfl (lv_at hl 0 rfl) ?_
    refine lv_imul hx hb dX1_add_29 ?_
    refine lv_aload_n hx hb dX1_add_30 rfl (lv_at hl 1 rfl) ?_
    refine w_get hx hb hts iX1_add_X1 hown hK hP 0 rfl rfl 1 (by decide) fX1_add_13 rfl rfl dX1_add_31 ?_
    refine lv_idiv hx hb dX1_add_34 c_17 ?_
    refine w_put (C := RX1) hx hb hts iX1_add_X1 tyX1_ok nmX1 hown hK hP hD hS 0 rfl rfl 2 (by decide) fX1_add_16 rfl rfl rfl rfl (Nat.le_of_ble_eq_true rfl) (ws' := [(h0, .inr (1, [.int a, .int (b + m0), .int ((d * b) / (b + m0))]))]) rfl dX1_add_35 (fun H locs hP hD hS => ?_)
    exact e0_v hx hb hr hlocks (P_eq (by rw [addF, if_neg c_17]) hP) hS dX1_add_38 (by decide) (by decide) (rfl)
  ·
    refine lv_iconst (v := 0) hx hb dX1_add_20 (by decide) ?_
    refine lv_goto (tgt := 35) hx hb dX1_add_21 (by decide) ?_
    refine w_put (C := RX1) hx hb hts iX1_add_X1 tyX1_ok nmX1 hown hK hP hD hS 0 rfl rfl 2 (by decide) fX1_add_16 rfl rfl rfl rfl (Nat.le_of_ble_eq_true rfl) (ws' := [(h0, .inr (1, [.int a, .int (b + m0), .int 0]))]) rfl dX1_add_35 (fun H locs hP hD hS => ?_)
    exact e0_v hx hb hr hlocks (P_eq (by rw [addF, if_pos c_17]) hP) hS dX1_add_38 (by decide) (by decide) (rfl)

set_option maxHeartbeats 4000000 in
set_option maxRecDepth 100000 in
theorem mX1_turn (l : Launch) (D : va_G) (cI cC cT cL : ClassId) (h0 : Nat) (a b d q : Int32) : M0 l yX1_turn wsX1_turn ({ frames := 2, cells := 0, slots := 0, locals := 42 } : Room) D (TY cI cC cT cL) [.ref h0, .int q] ([(h0, .inr (1, [.int a, .int b, .int d]))]) (none) ([(h0, .inr (1, [.int (coldA a q), .int b, .int (turnF a b d)]))]) 0 0 := by
  refine M0_of (cc := cX1_turn) (maxL := 2) (ret := none) (by decide +kernel) rfl (Nat.le_of_ble_eq_true rfl) ?_
  intro p e s m args below meth c A0 B ls hl
  obtain ⟨hx, hb, hml, hr, hown, hts, hlocks, hK, hP, hD, hA, hST, hnm⟩ := B
  have hown : s.vm.findClass RX1 = some m.cls := hown
  have hS : va_S A0 s.heap s.heap [] := va_S.rf
  have hl : lv_has ls 2 [(0, .ref h0), (1, .int q)] := hl
  refine lv_aload_n hx hb dX1_turn_0 rfl (lv_at hl 0 rfl) ?_
  refine w_get hx hb hts iX1_turn_X1 hown hK hP 0 rfl rfl 1 (by decide) fX1_turn_13 rfl rfl dX1_turn_1 ?_
  refine lv_if_le (tgt := 22) hx hb dX1_turn_4 (by decide) (fun c_4 => ?_) (fun c_4 => ?_)
  ·
    refine lv_aload_n hx hb dX1_turn_22 rfl (lv_at hl 0 rfl) ?_
    refine lv_aload_n hx hb dX1_turn_23 rfl (lv_at hl 0 rfl) ?_
    refine w_get hx hb hts iX1_turn_X1 hown hK hP 0 rfl rfl 0 (by decide) fX1_turn_7 rfl rfl dX1_turn_24 ?_
    refine lv_iload_n hx hb dX1_turn_27 rfl (lv_at hl 1 rfl) ?_
    refine c0_SN (As := [.int a, .int q]) (rest := [.ref h0]) ⟨hx, hb, hml, hown, hts⟩ (mX3_coldAfterHour l D cI cC cT cL a q) ⟨va_cnB 2 hts gX1_turn_X3_coldAfterHour_n25 rfl rfl rfl (hST.2.1 _ (List.mem_of_getElem? (i := 4) rfl)) (hts _ inX1_turn_X3) pX3_coldAfterHour ⟨Nat.le_of_ble_eq_true rfl, Nat.le_of_ble_eq_true rfl⟩, hts _ stX1_turn_X3_coldAfterHour, trivial⟩ hK hP hD hS hA hST (Jn_nil _) rfl hl.1 rfl (Nat.le_of_ble_eq_true rfl) dX1_turn_28 ⟨Nat.le_of_ble_eq_true rfl, Nat.le_of_ble_eq_true rfl⟩ rfl (fun H locs hP hD hS => ?_)
    refine w_put (C := RX1) hx hb hts iX1_turn_X1 tyX1_ok nmX1 hown hK hP hD hS 0 rfl rfl 0 (by decide) fX1_turn_7 rfl rfl rfl rfl (Nat.le_of_ble_eq_true rfl) (ws' := [(h0, .inr (1, [.int (coldA a q), .int b, .int d]))]) rfl dX1_turn_31 (fun H locs hP hD hS => ?_)
    exact e0_v hx hb hr hlocks (P_eq (by rw [turnF, if_neg (fun h => absurd c_4 (Int32.not_le.mpr h))]) hP) hS dX1_turn_34 (by decide) (by decide) (rfl)
  ·
    refine lv_aload_n hx hb dX1_turn_7 rfl (lv_at hl 0 rfl) ?_
    refine lv_aload_n hx hb dX1_turn_8 rfl (lv_at hl 0 rfl) ?_
    refine w_get hx hb hts iX1_turn_X1 hown hK hP 0 rfl rfl 2 (by decide) fX1_turn_16 rfl rfl dX1_turn_9 ?_
    refine lv_aload_n hx hb dX1_turn_12 rfl (lv_at hl 0 rfl) ?_
    refine w_get hx hb hts iX1_turn_X1 hown hK hP 0 rfl rfl 0 (by decide) fX1_turn_7 rfl rfl dX1_turn_13 ?_
    refine c0_SN (As := [.int d, .int a]) (rest := [.ref h0]) ⟨hx, hb, hml, hown, hts⟩ (mX3_firmAfterHour l D cI cC cT cL d a) ⟨va_cnB 2 hts gX1_turn_X3_firmAfterHour_n19 rfl rfl rfl (hST.2.1 _ (List.mem_of_getElem? (i := 3) rfl)) (hts _ inX1_turn_X3) pX3_firmAfterHour ⟨Nat.le_of_ble_eq_true rfl, Nat.le_of_ble_eq_true rfl⟩, hts _ stX1_turn_X3_firmAfterHour, trivial⟩ hK hP hD hS hA hST (Jn_nil _) rfl hl.1 rfl (Nat.le_of_ble_eq_true rfl) dX1_turn_16 ⟨Nat.le_of_ble_eq_true rfl, Nat.le_of_ble_eq_true rfl⟩ rfl (fun H locs hP hD hS => ?_)
    refine w_put (C := RX1) hx hb hts iX1_turn_X1 tyX1_ok nmX1 hown hK hP hD hS 0 rfl rfl 2 (by decide) fX1_turn_16 rfl rfl rfl rfl (Nat.le_of_ble_eq_true rfl) (ws' := [(h0, .inr (1, [.int a, .int b, .int (firmA d a)]))]) rfl dX1_turn_19 (fun H locs hP hD hS => ?_)
    refine lv_aload_n hx hb dX1_turn_22 rfl (lv_at hl 0 rfl) ?_
    refine lv_aload_n hx hb dX1_turn_23 rfl (lv_at hl 0 rfl) ?_
    refine w_get hx hb hts iX1_turn_X1 hown hK hP 0 rfl rfl 0 (by decide) fX1_turn_7 rfl rfl dX1_turn_24 ?_
    refine lv_iload_n hx hb dX1_turn_27 rfl (lv_at hl 1 rfl) ?_
    refine c0_SN (As := [.int a, .int q]) (rest := [.ref h0]) ⟨hx, hb, hml, hown, hts⟩ (mX3_coldAfterHour l D cI cC cT cL a q) ⟨va_cnB 2 hts gX1_turn_X3_coldAfterHour_n25 rfl rfl rfl (hST.2.1 _ (List.mem_of_getElem? (i := 4) rfl)) (hts _ inX1_turn_X3) pX3_coldAfterHour ⟨Nat.le_of_ble_eq_true rfl, Nat.le_of_ble_eq_true rfl⟩, hts _ stX1_turn_X3_coldAfterHour, trivial⟩ hK hP hD hS hA hST (Jn_nil _) rfl hl.1 rfl (Nat.le_of_ble_eq_true rfl) dX1_turn_28 ⟨Nat.le_of_ble_eq_true rfl, Nat.le_of_ble_eq_true rfl⟩ rfl (fun H locs hP hD hS => ?_)
    refine w_put (C := RX1) hx hb hts iX1_turn_X1 tyX1_ok nmX1 hown hK hP hD hS 0 rfl rfl 0 (by decide) fX1_turn_7 rfl rfl rfl rfl (Nat.le_of_ble_eq_true rfl) (ws' := [(h0, .inr (1, [.int (coldA a q), .int b, .int (firmA d a)]))]) rfl dX1_turn_31 (fun H locs hP hD hS => ?_)
    exact e0_v hx hb hr hlocks (P_eq (by rw [turnF, if_pos (Int32.not_le.mp c_4)]) hP) hS dX1_turn_34 (by decide) (by decide) (rfl)

set_option maxHeartbeats 4000000 in
set_option maxRecDepth 100000 in
theorem mX2_standInHeat (l : Launch) (D : va_G) (cI cC cT cL : ClassId) (h0 : Nat) (a b d q ic : Int32) : M0 l yX2_standInHeat wsX2_standInHeat ({ frames := 1, cells := 0, slots := 0, locals := 21 } : Room) D (TY cI cC cT cL) [.ref h0, .int q, .int ic] ([(h0, .inr (2, [.int a, .int b, .int d]))]) (none) ([(h0, .inr (2, [.int (standA a b q ic), .int (standB a b q ic), .int d]))]) 0 0 := by
  refine M0_of (cc := cX2_standInHeat) (maxL := 3) (ret := none) (by decide +kernel) rfl (Nat.le_of_ble_eq_true rfl) ?_
  intro p e s m args below meth c A0 B ls hl
  obtain ⟨hx, hb, hml, hr, hown, hts, hlocks, hK, hP, hD, hA, hST, hnm⟩ := B
  have hown : s.vm.findClass RX2 = some m.cls := hown
  have hS : va_S A0 s.heap s.heap [] := va_S.rf
  have hl : lv_has ls 3 [(0, .ref h0), (1, .int q), (2, .int ic)] := hl
  refine lv_aload_n hx hb dX2_standInHeat_0 rfl (lv_at hl 0 rfl) ?_
  refine w_get hx hb hts iX2_standInHeat_X2 hown hK hP 0 rfl rfl 0 (by decide) fX2_standInHeat_9 rfl rfl dX2_standInHeat_1 ?_
  refine lv_if_ne (tgt := 8) hx hb dX2_standInHeat_4 (by decide) (fun c_4 => ?_) (fun c_4 => ?_)
  ·
    refine lv_iload_n hx hb dX2_standInHeat_8 rfl (lv_at hl 1 rfl) ?_
    refine lv_bipush (v := 20) hx hb dX2_standInHeat_9 (by decide) ?_
    refine lv_icmp_le (tgt := 45) hx hb dX2_standInHeat_11 (by decide) (fun c_11 => ?_) (fun c_11 => ?_)
    ·
      refine lv_aload_n hx hb dX2_standInHeat_45 rfl (lv_at hl 0 rfl) ?_
      refine lv_iconst (v := 0) hx hb dX2_standInHeat_46 (by decide) ?_
      refine lv_aload_n hx hb dX2_standInHeat_47 rfl (lv_at hl 0 rfl) ?_
      refine w_get hx hb hts iX2_standInHeat_X2 hown hK hP 0 rfl rfl 1 (by decide) fX2_standInHeat_15 rfl rfl dX2_standInHeat_48 ?_
      refine lv_iconst (v := 1) hx hb dX2_standInHeat_51 (by decide) ?_
      refine lv_isub hx hb dX2_standInHeat_52 ?_
      refine va_mmax hx hb (hml.trans hl.1.symm) hown (hts _ mlX2_standInHeat_27) (hts _ msX2_standInHeat_max) (hts _ miX2_standInHeat) (hts _ mcX2_standInHeat_max) (Nat.le_of_ble_eq_true rfl) (Nat.le_of_ble_eq_true rfl) (Nat.le_of_ble_eq_true rfl) (Nat.le_of_ble_eq_true rfl) dX2_standInHeat_53 ?_
      refine w_put (C := RX2) hx hb hts iX2_standInHeat_X2 tyX2_ok nmX2 hown hK hP hD hS 0 rfl rfl 1 (by decide) fX2_standInHeat_15 rfl rfl rfl rfl (Nat.le_of_ble_eq_true rfl) (ws' := [(h0, .inr (2, [.int a, .int (imx 0 (b - 1)), .int d]))]) rfl dX2_standInHeat_56 (fun H locs hP hD hS => ?_)
      refine lv_aload_n hx hb dX2_standInHeat_59 rfl (lv_at hl 0 rfl) ?_
      refine w_get hx hb hts iX2_standInHeat_X2 hown hK hP 0 rfl rfl 1 (by decide) fX2_standInHeat_15 rfl rfl dX2_standInHeat_60 ?_
      refine lv_bipush (v := 100) hx hb dX2_standInHeat_63 (by decide) ?_
      refine lv_icmp_ne (tgt := 82) hx hb dX2_standInHeat_65 (by decide) (fun c_65 => ?_) (fun c_65 => ?_)
      ·
        exact e0_v hx hb hr hlocks (P_eq (by have hs : softB b q ic = imx 0 (b - 1) := if_neg (fun h => absurd c_11 (Int32.not_le.mpr h.1)); rw [standA, standB, if_neg c_4, if_neg c_4, hs, if_neg c_65]) hP) hS dX2_standInHeat_82 (by decide) (by decide) (rfl)
      ·
        refine lv_aload_n hx hb dX2_standInHeat_68 rfl (lv_at hl 0 rfl) ?_
        refine lv_iconst (v := 0) hx hb dX2_standInHeat_69 (by decide) ?_
        refine lv_aload_n hx hb dX2_standInHeat_70 rfl (lv_at hl 0 rfl) ?_
        refine w_get hx hb hts iX2_standInHeat_X2 hown hK hP 0 rfl rfl 0 (by decide) fX2_standInHeat_9 rfl rfl dX2_standInHeat_71 ?_
        refine lv_iconst (v := 2) hx hb dX2_standInHeat_74 (by decide) ?_
        refine lv_isub hx hb dX2_standInHeat_75 ?_
        refine va_mmax hx hb (hml.trans hl.1.symm) hown (hts _ mlX2_standInHeat_27) (hts _ msX2_standInHeat_max) (hts _ miX2_standInHeat) (hts _ mcX2_standInHeat_max) (Nat.le_of_ble_eq_true rfl) (Nat.le_of_ble_eq_true rfl) (Nat.le_of_ble_eq_true rfl) (Nat.le_of_ble_eq_true rfl) dX2_standInHeat_76 ?_
        refine w_put (C := RX2) hx hb hts iX2_standInHeat_X2 tyX2_ok nmX2 hown hK hP hD hS 0 rfl rfl 0 (by decide) fX2_standInHeat_9 rfl rfl rfl rfl (Nat.le_of_ble_eq_true rfl) (ws' := [(h0, .inr (2, [.int (imx 0 (a - 2)), .int (imx 0 (b - 1)), .int d]))]) rfl dX2_standInHeat_79 (fun H locs hP hD hS => ?_)
        exact e0_v hx hb hr hlocks (P_eq (by have hs : softB b q ic = imx 0 (b - 1) := if_neg (fun h => absurd c_11 (Int32.not_le.mpr h.1)); rw [standA, standB, if_neg c_4, if_neg c_4, hs, if_pos c_65] <;> rfl) hP) hS dX2_standInHeat_82 (by decide) (by decide) (rfl)
    ·
      refine lv_iload_n hx hb dX2_standInHeat_14 rfl (lv_at hl 2 rfl) ?_
      refine lv_bipush (v := 100) hx hb dX2_standInHeat_15 (by decide) ?_
      refine lv_icmp_ge (tgt := 45) hx hb dX2_standInHeat_17 (by decide) (fun c_17 => ?_) (fun c_17 => ?_)
      ·
        refine lv_aload_n hx hb dX2_standInHeat_45 rfl (lv_at hl 0 rfl) ?_
        refine lv_iconst (v := 0) hx hb dX2_standInHeat_46 (by decide) ?_
        refine lv_aload_n hx hb dX2_standInHeat_47 rfl (lv_at hl 0 rfl) ?_
        refine w_get hx hb hts iX2_standInHeat_X2 hown hK hP 0 rfl rfl 1 (by decide) fX2_standInHeat_15 rfl rfl dX2_standInHeat_48 ?_
        refine lv_iconst (v := 1) hx hb dX2_standInHeat_51 (by decide) ?_
        refine lv_isub hx hb dX2_standInHeat_52 ?_
        refine va_mmax hx hb (hml.trans hl.1.symm) hown (hts _ mlX2_standInHeat_27) (hts _ msX2_standInHeat_max) (hts _ miX2_standInHeat) (hts _ mcX2_standInHeat_max) (Nat.le_of_ble_eq_true rfl) (Nat.le_of_ble_eq_true rfl) (Nat.le_of_ble_eq_true rfl) (Nat.le_of_ble_eq_true rfl) dX2_standInHeat_53 ?_
        refine w_put (C := RX2) hx hb hts iX2_standInHeat_X2 tyX2_ok nmX2 hown hK hP hD hS 0 rfl rfl 1 (by decide) fX2_standInHeat_15 rfl rfl rfl rfl (Nat.le_of_ble_eq_true rfl) (ws' := [(h0, .inr (2, [.int a, .int (imx 0 (b - 1)), .int d]))]) rfl dX2_standInHeat_56 (fun H locs hP hD hS => ?_)
        refine lv_aload_n hx hb dX2_standInHeat_59 rfl (lv_at hl 0 rfl) ?_
        refine w_get hx hb hts iX2_standInHeat_X2 hown hK hP 0 rfl rfl 1 (by decide) fX2_standInHeat_15 rfl rfl dX2_standInHeat_60 ?_
        refine lv_bipush (v := 100) hx hb dX2_standInHeat_63 (by decide) ?_
        refine lv_icmp_ne (tgt := 82) hx hb dX2_standInHeat_65 (by decide) (fun c_65 => ?_) (fun c_65 => ?_)
        ·
          exact e0_v hx hb hr hlocks (P_eq (by have hs : softB b q ic = imx 0 (b - 1) := if_neg (fun h => absurd c_17 (Int32.not_le.mpr h.2)); rw [standA, standB, if_neg c_4, if_neg c_4, hs, if_neg c_65]) hP) hS dX2_standInHeat_82 (by decide) (by decide) (rfl)
        ·
          refine lv_aload_n hx hb dX2_standInHeat_68 rfl (lv_at hl 0 rfl) ?_
          refine lv_iconst (v := 0) hx hb dX2_standInHeat_69 (by decide) ?_
          refine lv_aload_n hx hb dX2_standInHeat_70 rfl (lv_at hl 0 rfl) ?_
          refine w_get hx hb hts iX2_standInHeat_X2 hown hK hP 0 rfl rfl 0 (by decide) fX2_standInHeat_9 rfl rfl dX2_standInHeat_71 ?_
          refine lv_iconst (v := 2) hx hb dX2_standInHeat_74 (by decide) ?_
          refine lv_isub hx hb dX2_standInHeat_75 ?_
          refine va_mmax hx hb (hml.trans hl.1.symm) hown (hts _ mlX2_standInHeat_27) (hts _ msX2_standInHeat_max) (hts _ miX2_standInHeat) (hts _ mcX2_standInHeat_max) (Nat.le_of_ble_eq_true rfl) (Nat.le_of_ble_eq_true rfl) (Nat.le_of_ble_eq_true rfl) (Nat.le_of_ble_eq_true rfl) dX2_standInHeat_76 ?_
          refine w_put (C := RX2) hx hb hts iX2_standInHeat_X2 tyX2_ok nmX2 hown hK hP hD hS 0 rfl rfl 0 (by decide) fX2_standInHeat_9 rfl rfl rfl rfl (Nat.le_of_ble_eq_true rfl) (ws' := [(h0, .inr (2, [.int (imx 0 (a - 2)), .int (imx 0 (b - 1)), .int d]))]) rfl dX2_standInHeat_79 (fun H locs hP hD hS => ?_)
          exact e0_v hx hb hr hlocks (P_eq (by have hs : softB b q ic = imx 0 (b - 1) := if_neg (fun h => absurd c_17 (Int32.not_le.mpr h.2)); rw [standA, standB, if_neg c_4, if_neg c_4, hs, if_pos c_65] <;> rfl) hP) hS dX2_standInHeat_82 (by decide) (by decide) (rfl)
      ·
        refine lv_aload_n hx hb dX2_standInHeat_20 rfl (lv_at hl 0 rfl) ?_
        refine lv_bipush (v := 100) hx hb dX2_standInHeat_21 (by decide) ?_
        refine lv_aload_n hx hb dX2_standInHeat_23 rfl (lv_at hl 0 rfl) ?_
        refine w_get hx hb hts iX2_standInHeat_X2 hown hK hP 0 rfl rfl 1 (by decide) fX2_standInHeat_15 rfl rfl dX2_standInHeat_24 ?_
        refine lv_iload_n hx hb dX2_standInHeat_27 rfl (lv_at hl 1 rfl) ?_
        refine lv_bipush (v := 20) hx hb dX2_standInHeat_28 (by decide) ?_
        refine lv_isub hx hb dX2_standInHeat_30 ?_
        refine lv_iconst (v := 4) hx hb dX2_standInHeat_31 (by decide) ?_
        refine lv_idiv hx hb dX2_standInHeat_32 (by decide) ?_
        refine lv_iadd hx hb dX2_standInHeat_33 ?_
        refine lv_iconst (v := 1) hx hb dX2_standInHeat_34 (by decide) ?_
        refine lv_iadd hx hb dX2_standInHeat_35 ?_
        refine va_mmin hx hb (hml.trans hl.1.symm) hown (hts _ mlX2_standInHeat_21) (hts _ msX2_standInHeat_min) (hts _ miX2_standInHeat) (hts _ mcX2_standInHeat_min) (Nat.le_of_ble_eq_true rfl) (Nat.le_of_ble_eq_true rfl) (Nat.le_of_ble_eq_true rfl) (Nat.le_of_ble_eq_true rfl) dX2_standInHeat_36 ?_
        refine w_put (C := RX2) hx hb hts iX2_standInHeat_X2 tyX2_ok nmX2 hown hK hP hD hS 0 rfl rfl 1 (by decide) fX2_standInHeat_15 rfl rfl rfl rfl (Nat.le_of_ble_eq_true rfl) (ws' := [(h0, .inr (2, [.int a, .int (imn 100 ((b + ((q - 20) / 4)) + 1)), .int d]))]) rfl dX2_standInHeat_39 (fun H locs hP hD hS => ?_)
        refine lv_goto (tgt := 59) hx hb dX2_standInHeat_42 (by decide) ?_
        refine lv_aload_n hx hb dX2_standInHeat_59 rfl (lv_at hl 0 rfl) ?_
        refine w_get hx hb hts iX2_standInHeat_X2 hown hK hP 0 rfl rfl 1 (by decide) fX2_standInHeat_15 rfl rfl dX2_standInHeat_60 ?_
        refine lv_bipush (v := 100) hx hb dX2_standInHeat_63 (by decide) ?_
        refine lv_icmp_ne (tgt := 82) hx hb dX2_standInHeat_65 (by decide) (fun c_65 => ?_) (fun c_65 => ?_)
        ·
          exact e0_v hx hb hr hlocks (P_eq (by have hs : softB b q ic = imn 100 (b + (q - 20) / 4 + 1) := if_pos ⟨Int32.not_le.mp c_11, Int32.not_le.mp c_17⟩; rw [standA, standB, if_neg c_4, if_neg c_4, hs, if_neg c_65]) hP) hS dX2_standInHeat_82 (by decide) (by decide) (rfl)
        ·
          refine lv_aload_n hx hb dX2_standInHeat_68 rfl (lv_at hl 0 rfl) ?_
          refine lv_iconst (v := 0) hx hb dX2_standInHeat_69 (by decide) ?_
          refine lv_aload_n hx hb dX2_standInHeat_70 rfl (lv_at hl 0 rfl) ?_
          refine w_get hx hb hts iX2_standInHeat_X2 hown hK hP 0 rfl rfl 0 (by decide) fX2_standInHeat_9 rfl rfl dX2_standInHeat_71 ?_
          refine lv_iconst (v := 2) hx hb dX2_standInHeat_74 (by decide) ?_
          refine lv_isub hx hb dX2_standInHeat_75 ?_
          refine va_mmax hx hb (hml.trans hl.1.symm) hown (hts _ mlX2_standInHeat_27) (hts _ msX2_standInHeat_max) (hts _ miX2_standInHeat) (hts _ mcX2_standInHeat_max) (Nat.le_of_ble_eq_true rfl) (Nat.le_of_ble_eq_true rfl) (Nat.le_of_ble_eq_true rfl) (Nat.le_of_ble_eq_true rfl) dX2_standInHeat_76 ?_
          refine w_put (C := RX2) hx hb hts iX2_standInHeat_X2 tyX2_ok nmX2 hown hK hP hD hS 0 rfl rfl 0 (by decide) fX2_standInHeat_9 rfl rfl rfl rfl (Nat.le_of_ble_eq_true rfl) (ws' := [(h0, .inr (2, [.int (imx 0 (a - 2)), .int (imn 100 ((b + ((q - 20) / 4)) + 1)), .int d]))]) rfl dX2_standInHeat_79 (fun H locs hP hD hS => ?_)
          exact e0_v hx hb hr hlocks (P_eq (by have hs : softB b q ic = imn 100 (b + (q - 20) / 4 + 1) := if_pos ⟨Int32.not_le.mp c_11, Int32.not_le.mp c_17⟩; rw [standA, standB, if_neg c_4, if_neg c_4, hs, if_pos c_65] <;> rfl) hP) hS dX2_standInHeat_82 (by decide) (by decide) (rfl)
  ·
    exact e0_v hx hb hr hlocks (P_eq (by rw [standA, standB, if_pos c_4, if_pos c_4]) hP) hS dX2_standInHeat_7 (by decide) (by decide) (rfl)

set_option maxHeartbeats 4000000 in
set_option maxRecDepth 100000 in
theorem mX2_take (l : Launch) (D : va_G) (cI cC cT cL : ClassId) (h0 : Nat) (a b d x y : Int32) : M0 l yX2_take wsX2_take ({ frames := 1, cells := 0, slots := 0, locals := 21 } : Room) D (TY cI cC cT cL) [.ref h0, .int x, .int y] ([(h0, .inr (2, [.int a, .int b, .int d]))]) (none) ([(h0, .inr (2, [.int (imn 60 (a + 2 * x)), .int (imx b (100 - y)), .int d]))]) 0 0 := by
  refine M0_of (cc := cX2_take) (maxL := 3) (ret := none) (by decide +kernel) rfl (Nat.le_of_ble_eq_true rfl) ?_
  intro p e s m args below meth c A0 B ls hl
  obtain ⟨hx, hb, hml, hr, hown, hts, hlocks, hK, hP, hD, hA, hST, hnm⟩ := B
  have hown : s.vm.findClass RX2 = some m.cls := hown
  have hS : va_S A0 s.heap s.heap [] := va_S.rf
  have hl : lv_has ls 3 [(0, .ref h0), (1, .int x), (2, .int y)] := hl
  refine lv_aload_n hx hb dX2_take_0 rfl (lv_at hl 0 rfl) ?_
  refine lv_bipush (v := 60) hx hb dX2_take_1 (by decide) ?_
  refine lv_aload_n hx hb dX2_take_3 rfl (lv_at hl 0 rfl) ?_
  refine w_get hx hb hts iX2_take_X2 hown hK hP 0 rfl rfl 0 (by decide) fX2_take_9 rfl rfl dX2_take_4 ?_
  refine lv_iconst (v := 2) hx hb dX2_take_7 (by decide) ?_
  refine lv_iload_n hx hb dX2_take_8 rfl (lv_at hl 1 rfl) ?_
  refine lv_imul hx hb dX2_take_9 ?_
  refine lv_iadd hx hb dX2_take_10 ?_
  refine va_mmin hx hb (hml.trans hl.1.symm) hown (hts _ mlX2_take_21) (hts _ msX2_take_min) (hts _ miX2_take) (hts _ mcX2_take_min) (Nat.le_of_ble_eq_true rfl) (Nat.le_of_ble_eq_true rfl) (Nat.le_of_ble_eq_true rfl) (Nat.le_of_ble_eq_true rfl) dX2_take_11 ?_
  refine w_put (C := RX2) hx hb hts iX2_take_X2 tyX2_ok nmX2 hown hK hP hD hS 0 rfl rfl 0 (by decide) fX2_take_9 rfl rfl rfl rfl (Nat.le_of_ble_eq_true rfl) (ws' := [(h0, .inr (2, [.int (imn 60 (a + (2 * x))), .int b, .int d]))]) rfl dX2_take_14 (fun H locs hP hD hS => ?_)
  refine lv_aload_n hx hb dX2_take_17 rfl (lv_at hl 0 rfl) ?_
  refine lv_aload_n hx hb dX2_take_18 rfl (lv_at hl 0 rfl) ?_
  refine w_get hx hb hts iX2_take_X2 hown hK hP 0 rfl rfl 1 (by decide) fX2_take_15 rfl rfl dX2_take_19 ?_
  refine lv_bipush (v := 100) hx hb dX2_take_22 (by decide) ?_
  refine lv_iload_n hx hb dX2_take_24 rfl (lv_at hl 2 rfl) ?_
  refine lv_isub hx hb dX2_take_25 ?_
  refine va_mmax hx hb (hml.trans hl.1.symm) hown (hts _ mlX2_take_27) (hts _ msX2_take_max) (hts _ miX2_take) (hts _ mcX2_take_max) (Nat.le_of_ble_eq_true rfl) (Nat.le_of_ble_eq_true rfl) (Nat.le_of_ble_eq_true rfl) (Nat.le_of_ble_eq_true rfl) dX2_take_26 ?_
  refine w_put (C := RX2) hx hb hts iX2_take_X2 tyX2_ok nmX2 hown hK hP hD hS 0 rfl rfl 1 (by decide) fX2_take_15 rfl rfl rfl rfl (Nat.le_of_ble_eq_true rfl) (ws' := [(h0, .inr (2, [.int (imn 60 (a + (2 * x))), .int (imx b (100 - y)), .int d]))]) rfl dX2_take_29 (fun H locs hP hD hS => ?_)
  exact e0_v hx hb hr hlocks hP hS dX2_take_32 (by decide) (by decide) (rfl)

set_option maxHeartbeats 4000000 in
set_option maxRecDepth 100000 in
theorem mX2_sellScoop (l : Launch) (D : va_G) (cI cC cT cL : ClassId) (h0 : Nat) (a b d : Int32) : M0 l yX2_sellScoop wsX2_sellScoop ({ frames := 0, cells := 0, slots := 0, locals := 0 } : Room) D (TY cI cC cT cL) [.ref h0] ([(h0, .inr (2, [.int a, .int b, .int d]))]) (some (.int (payF b))) ([(h0, .inr (2, [.int (a - 1), .int b, .int (d + 1)]))]) 0 0 := by
  refine M0_of (cc := cX2_sellScoop) (maxL := 1) (ret := (some .int)) (by decide +kernel) rfl (Nat.le_of_ble_eq_true rfl) ?_
  intro p e s m args below meth c A0 B ls hl
  obtain ⟨hx, hb, hml, hr, hown, hts, hlocks, hK, hP, hD, hA, hST, hnm⟩ := B
  have hown : s.vm.findClass RX2 = some m.cls := hown
  have hS : va_S A0 s.heap s.heap [] := va_S.rf
  have hl : lv_has ls 1 [(0, .ref h0)] := hl
  refine lv_aload_n hx hb dX2_sellScoop_0 rfl (lv_at hl 0 rfl) ?_
  refine lv_dup hx hb dX2_sellScoop_1 rfl ?_
  refine w_get hx hb hts iX2_sellScoop_X2 hown hK hP 0 rfl rfl 0 (by decide) fX2_sellScoop_9 rfl rfl dX2_sellScoop_2 ?_
  refine lv_iconst (v := 1) hx hb dX2_sellScoop_5 (by decide) ?_
  refine lv_isub hx hb dX2_sellScoop_6 ?_
  refine w_put (C := RX2) hx hb hts iX2_sellScoop_X2 tyX2_ok nmX2 hown hK hP hD hS 0 rfl rfl 0 (by decide) fX2_sellScoop_9 rfl rfl rfl rfl (Nat.le_of_ble_eq_true rfl) (ws' := [(h0, .inr (2, [.int (a - 1), .int b, .int d]))]) rfl dX2_sellScoop_7 (fun H locs hP hD hS => ?_)
  refine lv_aload_n hx hb dX2_sellScoop_10 rfl (lv_at hl 0 rfl) ?_
  refine lv_dup hx hb dX2_sellScoop_11 rfl ?_
  refine w_get hx hb hts iX2_sellScoop_X2 hown hK hP 0 rfl rfl 2 (by decide) fX2_sellScoop_18 rfl rfl dX2_sellScoop_12 ?_
  refine lv_iconst (v := 1) hx hb dX2_sellScoop_15 (by decide) ?_
  refine lv_iadd hx hb dX2_sellScoop_16 ?_
  refine w_put (C := RX2) hx hb hts iX2_sellScoop_X2 tyX2_ok nmX2 hown hK hP hD hS 0 rfl rfl 2 (by decide) fX2_sellScoop_18 rfl rfl rfl rfl (Nat.le_of_ble_eq_true rfl) (ws' := [(h0, .inr (2, [.int (a - 1), .int b, .int (d + 1)]))]) rfl dX2_sellScoop_17 (fun H locs hP hD hS => ?_)
  refine lv_aload_n hx hb dX2_sellScoop_20 rfl (lv_at hl 0 rfl) ?_
  refine w_get hx hb hts iX2_sellScoop_X2 hown hK hP 0 rfl rfl 1 (by decide) fX2_sellScoop_15 rfl rfl dX2_sellScoop_21 ?_
  refine lv_bipush (v := 50) hx hb dX2_sellScoop_24 (by decide) ?_
  refine lv_icmp_lt (tgt := 33) hx hb dX2_sellScoop_26 (by decide) (fun c_26 => ?_) (fun c_26 => ?_)
  ·
    refine lv_iconst (v := 3) hx hb dX2_sellScoop_33 (by decide) ?_
    exact e0_i hx hb hr hlocks hP hS dX2_sellScoop_34 (by decide) (by decide) (by rw [payF, if_pos c_26])
  ·
    refine lv_iconst (v := 2) hx hb dX2_sellScoop_29 (by decide) ?_
    refine lv_goto (tgt := 34) hx hb dX2_sellScoop_30 (by decide) ?_
    exact e0_i hx hb hr hlocks hP hS dX2_sellScoop_34 (by decide) (by decide) (by rw [payF, if_neg c_26])

set_option maxHeartbeats 4000000 in
set_option maxRecDepth 100000 in
theorem mX2_forgetSoftnessIfEmpty (l : Launch) (D : va_G) (cI cC cT cL : ClassId) (h0 : Nat) (a b d : Int32) : M0 l yX2_forgetSoftnessIfEmpty wsX2_forgetSoftnessIfEmpty ({ frames := 0, cells := 0, slots := 0, locals := 0 } : Room) D (TY cI cC cT cL) [.ref h0] ([(h0, .inr (2, [.int a, .int b, .int d]))]) (none) ([(h0, .inr (2, [.int a, .int (forgB a b), .int d]))]) 0 0 := by
  refine M0_of (cc := cX2_forgetSoftnessIfEmpty) (maxL := 1) (ret := none) (by decide +kernel) rfl (Nat.le_of_ble_eq_true rfl) ?_
  intro p e s m args below meth c A0 B ls hl
  obtain ⟨hx, hb, hml, hr, hown, hts, hlocks, hK, hP, hD, hA, hST, hnm⟩ := B
  have hown : s.vm.findClass RX2 = some m.cls := hown
  have hS : va_S A0 s.heap s.heap [] := va_S.rf
  have hl : lv_has ls 1 [(0, .ref h0)] := hl
  refine lv_aload_n hx hb dX2_forgetSoftnessIfEmpty_0 rfl (lv_at hl 0 rfl) ?_
  refine w_get hx hb hts iX2_forgetSoftnessIfEmpty_X2 hown hK hP 0 rfl rfl 0 (by decide) fX2_forgetSoftnessIfEmpty_9 rfl rfl dX2_forgetSoftnessIfEmpty_1 ?_
  refine lv_if_ne (tgt := 12) hx hb dX2_forgetSoftnessIfEmpty_4 (by decide) (fun c_4 => ?_) (fun c_4 => ?_)
  ·
    exact e0_v hx hb hr hlocks (P_eq (by rw [forgB, if_neg c_4]) hP) hS dX2_forgetSoftnessIfEmpty_12 (by decide) (by decide) (rfl)
  ·
    refine lv_aload_n hx hb dX2_forgetSoftnessIfEmpty_7 rfl (lv_at hl 0 rfl) ?_
    refine lv_iconst (v := 0) hx hb dX2_forgetSoftnessIfEmpty_8 (by decide) ?_
    refine w_put (C := RX2) hx hb hts iX2_forgetSoftnessIfEmpty_X2 tyX2_ok nmX2 hown hK hP hD hS 0 rfl rfl 1 (by decide) fX2_forgetSoftnessIfEmpty_15 rfl rfl rfl rfl (Nat.le_of_ble_eq_true rfl) (ws' := [(h0, .inr (2, [.int a, .int 0, .int d]))]) rfl dX2_forgetSoftnessIfEmpty_9 (fun H locs hP hD hS => ?_)
    exact e0_v hx hb hr hlocks (P_eq (by rw [forgB, if_pos c_4]) hP) hS dX2_forgetSoftnessIfEmpty_12 (by decide) (by decide) (rfl)

set_option maxHeartbeats 4000000 in
set_option maxRecDepth 100000 in
theorem mX1_copyFrom (l : Launch) (D : va_G) (cI cC cT cL : ClassId) (h0 h1 : Nat) (a b d a1 b1 d1 : Int32) : M0 l yX1_copyFrom wsX1_copyFrom ({ frames := 0, cells := 0, slots := 0, locals := 0 } : Room) D (TY cI cC cT cL) [.ref h0, .ref h1] ([(h0, .inr (1, [.int a, .int b, .int d])), (h1, .inr (1, [.int a1, .int b1, .int d1]))]) (none) ([(h0, .inr (1, [.int a1, .int b1, .int d1])), (h1, .inr (1, [.int a1, .int b1, .int d1]))]) 0 0 := by
  refine M0_of (cc := cX1_copyFrom) (maxL := 2) (ret := none) (by decide +kernel) rfl (Nat.le_of_ble_eq_true rfl) ?_
  intro p e s m args below meth c A0 B ls hl
  obtain ⟨hx, hb, hml, hr, hown, hts, hlocks, hK, hP, hD, hA, hST, hnm⟩ := B
  have hown : s.vm.findClass RX1 = some m.cls := hown
  have hS : va_S A0 s.heap s.heap [] := va_S.rf
  have hl : lv_has ls 2 [(0, .ref h0), (1, .ref h1)] := hl
  refine lv_aload_n hx hb dX1_copyFrom_0 rfl (lv_at hl 0 rfl) ?_
  refine lv_aload_n hx hb dX1_copyFrom_1 rfl (lv_at hl 1 rfl) ?_
  refine w_get hx hb hts iX1_copyFrom_X1 hown hK hP 1 rfl rfl 0 (by decide) fX1_copyFrom_7 rfl rfl dX1_copyFrom_2 ?_
  refine w_put (C := RX1) hx hb hts iX1_copyFrom_X1 tyX1_ok nmX1 hown hK hP hD hS 0 rfl rfl 0 (by decide) fX1_copyFrom_7 rfl rfl rfl rfl (Nat.le_of_ble_eq_true rfl) (ws' := [(h0, .inr (1, [.int a1, .int b, .int d])), (h1, .inr (1, [.int a1, .int b1, .int d1]))]) rfl dX1_copyFrom_5 (fun H locs hP hD hS => ?_)
  refine lv_aload_n hx hb dX1_copyFrom_8 rfl (lv_at hl 0 rfl) ?_
  refine lv_aload_n hx hb dX1_copyFrom_9 rfl (lv_at hl 1 rfl) ?_
  refine w_get hx hb hts iX1_copyFrom_X1 hown hK hP 1 rfl rfl 1 (by decide) fX1_copyFrom_13 rfl rfl dX1_copyFrom_10 ?_
  refine w_put (C := RX1) hx hb hts iX1_copyFrom_X1 tyX1_ok nmX1 hown hK hP hD hS 0 rfl rfl 1 (by decide) fX1_copyFrom_13 rfl rfl rfl rfl (Nat.le_of_ble_eq_true rfl) (ws' := [(h0, .inr (1, [.int a1, .int b1, .int d])), (h1, .inr (1, [.int a1, .int b1, .int d1]))]) rfl dX1_copyFrom_13 (fun H locs hP hD hS => ?_)
  refine lv_aload_n hx hb dX1_copyFrom_16 rfl (lv_at hl 0 rfl) ?_
  refine lv_aload_n hx hb dX1_copyFrom_17 rfl (lv_at hl 1 rfl) ?_
  refine w_get hx hb hts iX1_copyFrom_X1 hown hK hP 1 rfl rfl 2 (by decide) fX1_copyFrom_16 rfl rfl dX1_copyFrom_18 ?_
  refine w_put (C := RX1) hx hb hts iX1_copyFrom_X1 tyX1_ok nmX1 hown hK hP hD hS 0 rfl rfl 2 (by decide) fX1_copyFrom_16 rfl rfl rfl rfl (Nat.le_of_ble_eq_true rfl) (ws' := [(h0, .inr (1, [.int a1, .int b1, .int d1])), (h1, .inr (1, [.int a1, .int b1, .int d1]))]) rfl dX1_copyFrom_21 (fun H locs hP hD hS => ?_)
  exact e0_v hx hb hr hlocks hP hS dX1_copyFrom_24 (by decide) (by decide) (rfl)

set_option maxHeartbeats 4000000 in
set_option maxRecDepth 100000 in
theorem mX2_copyFrom (l : Launch) (D : va_G) (cI cC cT cL : ClassId) (h0 h1 : Nat) (a b d a1 b1 d1 : Int32) : M0 l yX2_copyFrom wsX2_copyFrom ({ frames := 0, cells := 0, slots := 0, locals := 0 } : Room) D (TY cI cC cT cL) [.ref h0, .ref h1] ([(h0, .inr (2, [.int a, .int b, .int d])), (h1, .inr (2, [.int a1, .int b1, .int d1]))]) (none) ([(h0, .inr (2, [.int a1, .int b1, .int d1])), (h1, .inr (2, [.int a1, .int b1, .int d1]))]) 0 0 := by
  refine M0_of (cc := cX2_copyFrom) (maxL := 2) (ret := none) (by decide +kernel) rfl (Nat.le_of_ble_eq_true rfl) ?_
  intro p e s m args below meth c A0 B ls hl
  obtain ⟨hx, hb, hml, hr, hown, hts, hlocks, hK, hP, hD, hA, hST, hnm⟩ := B
  have hown : s.vm.findClass RX2 = some m.cls := hown
  have hS : va_S A0 s.heap s.heap [] := va_S.rf
  have hl : lv_has ls 2 [(0, .ref h0), (1, .ref h1)] := hl
  refine lv_aload_n hx hb dX2_copyFrom_0 rfl (lv_at hl 0 rfl) ?_
  refine lv_aload_n hx hb dX2_copyFrom_1 rfl (lv_at hl 1 rfl) ?_
  refine w_get hx hb hts iX2_copyFrom_X2 hown hK hP 1 rfl rfl 0 (by decide) fX2_copyFrom_9 rfl rfl dX2_copyFrom_2 ?_
  refine w_put (C := RX2) hx hb hts iX2_copyFrom_X2 tyX2_ok nmX2 hown hK hP hD hS 0 rfl rfl 0 (by decide) fX2_copyFrom_9 rfl rfl rfl rfl (Nat.le_of_ble_eq_true rfl) (ws' := [(h0, .inr (2, [.int a1, .int b, .int d])), (h1, .inr (2, [.int a1, .int b1, .int d1]))]) rfl dX2_copyFrom_5 (fun H locs hP hD hS => ?_)
  refine lv_aload_n hx hb dX2_copyFrom_8 rfl (lv_at hl 0 rfl) ?_
  refine lv_aload_n hx hb dX2_copyFrom_9 rfl (lv_at hl 1 rfl) ?_
  refine w_get hx hb hts iX2_copyFrom_X2 hown hK hP 1 rfl rfl 1 (by decide) fX2_copyFrom_15 rfl rfl dX2_copyFrom_10 ?_
  refine w_put (C := RX2) hx hb hts iX2_copyFrom_X2 tyX2_ok nmX2 hown hK hP hD hS 0 rfl rfl 1 (by decide) fX2_copyFrom_15 rfl rfl rfl rfl (Nat.le_of_ble_eq_true rfl) (ws' := [(h0, .inr (2, [.int a1, .int b1, .int d])), (h1, .inr (2, [.int a1, .int b1, .int d1]))]) rfl dX2_copyFrom_13 (fun H locs hP hD hS => ?_)
  refine lv_aload_n hx hb dX2_copyFrom_16 rfl (lv_at hl 0 rfl) ?_
  refine lv_aload_n hx hb dX2_copyFrom_17 rfl (lv_at hl 1 rfl) ?_
  refine w_get hx hb hts iX2_copyFrom_X2 hown hK hP 1 rfl rfl 2 (by decide) fX2_copyFrom_18 rfl rfl dX2_copyFrom_18 ?_
  refine w_put (C := RX2) hx hb hts iX2_copyFrom_X2 tyX2_ok nmX2 hown hK hP hD hS 0 rfl rfl 2 (by decide) fX2_copyFrom_18 rfl rfl rfl rfl (Nat.le_of_ble_eq_true rfl) (ws' := [(h0, .inr (2, [.int a1, .int b1, .int d1])), (h1, .inr (2, [.int a1, .int b1, .int d1]))]) rfl dX2_copyFrom_21 (fun H locs hP hD hS => ?_)
  exact e0_v hx hb hr hlocks hP hS dX2_copyFrom_24 (by decide) (by decide) (rfl)

set_option maxHeartbeats 4000000 in
set_option maxRecDepth 100000 in
theorem mX1_init (l : Launch) (D : va_G) (cI cC cT cL : ClassId) (h0 : Nat) (a b d : Int32) : M0 l yX1_init wsX1_init ({ frames := 1, cells := 0, slots := 0, locals := 20 } : Room) D (TY cI cC cT cL) [.ref h0] ([(h0, .inr (1, [.int a, .int b, .int d]))]) (none) ([(h0, .inr (1, [.int a, .int b, .int d]))]) 0 0 := by
  refine M0_of (cc := cX1_init) (maxL := 1) (ret := none) (by decide +kernel) rfl (Nat.le_of_ble_eq_true rfl) ?_
  intro p e s m args below meth c A0 B ls hl
  obtain ⟨hx, hb, hml, hr, hown, hts, hlocks, hK, hP, hD, hA, hST, hnm⟩ := B
  have hown : s.vm.findClass RX1 = some m.cls := hown
  have hS : va_S A0 s.heap s.heap [] := va_S.rf
  have hl : lv_has ls 1 [(0, .ref h0)] := hl
  refine lv_aload_n hx hb dX1_init_0 rfl (lv_at hl 0 rfl) ?_
  refine W.objInit hx hb hown (hts _ oiX1_init) (hts _ ojX1_init) (hts _ okX1_init) rfl (by rw [hml]; exact hl.1) rfl dX1_init_1 (Nat.le_of_ble_eq_true rfl) (Nat.le_of_ble_eq_true rfl) ?_
  refine W.eq (g2 := F0 m 4 ls []) rfl ?_
  exact e0_v hx hb hr hlocks hP hS dX1_init_4 (by decide) (by decide) (rfl)

set_option maxHeartbeats 4000000 in
set_option maxRecDepth 100000 in
theorem mX2_init (l : Launch) (D : va_G) (cI cC cT cL : ClassId) (h0 : Nat) (a b d : Int32) : M0 l yX2_init wsX2_init ({ frames := 1, cells := 0, slots := 0, locals := 20 } : Room) D (TY cI cC cT cL) [.ref h0] ([(h0, .inr (2, [.int a, .int b, .int d]))]) (none) ([(h0, .inr (2, [.int a, .int b, .int d]))]) 0 0 := by
  refine M0_of (cc := cX2_init) (maxL := 1) (ret := none) (by decide +kernel) rfl (Nat.le_of_ble_eq_true rfl) ?_
  intro p e s m args below meth c A0 B ls hl
  obtain ⟨hx, hb, hml, hr, hown, hts, hlocks, hK, hP, hD, hA, hST, hnm⟩ := B
  have hown : s.vm.findClass RX2 = some m.cls := hown
  have hS : va_S A0 s.heap s.heap [] := va_S.rf
  have hl : lv_has ls 1 [(0, .ref h0)] := hl
  refine lv_aload_n hx hb dX2_init_0 rfl (lv_at hl 0 rfl) ?_
  refine W.objInit hx hb hown (hts _ oiX2_init) (hts _ ojX2_init) (hts _ okX2_init) rfl (by rw [hml]; exact hl.1) rfl dX2_init_1 (Nat.le_of_ble_eq_true rfl) (Nat.le_of_ble_eq_true rfl) ?_
  refine W.eq (g2 := F0 m 4 ls []) rfl ?_
  exact e0_v hx hb hr hlocks hP hS dX2_init_4 (by decide) (by decide) (rfl)
