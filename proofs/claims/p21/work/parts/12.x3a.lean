set_option maxHeartbeats 4000000 in
set_option maxRecDepth 100000 in
theorem mX3_checkPacked (l : Launch) (D : va_G) (cI cC cT cL : ClassId) (hl0 : l.stackTraces = false) (a : Int32) : M1 l yX3_checkPacked wsX3_checkPacked ({ frames := 6, cells := 1, slots := 6, locals := 90 } : Room) D (TY cI cC cT cL) [.int a] ([]) (cIn a 0 60) (none) ([]) (fun E => ¬ cIn a 0 60 ∧ E = IAE) 1 6 := by
  refine M1_of (cc := cX3_checkPacked) (maxL := 1) (ret := none) (by decide +kernel) rfl (Nat.le_of_ble_eq_true rfl) ?_
  intro p e s m args below meth c A0 B htab ls hl
  obtain ⟨hx, hb, hml, hr, hown, hts, hlocks, hK, hP, hD, hA, hST, hnm⟩ := B
  have hown : s.vm.findClass RX3 = some m.cls := hown
  have hS : va_S A0 s.heap s.heap [] := va_S.rf
  have hl : lv_has ls 1 [(0, .int a)] := hl
  refine lv_iload_n hx hb dX3_checkPacked_0 rfl (lv_at hl 0 rfl) ?_
  refine lv_if_lt (tgt := 10) hx hb dX3_checkPacked_1 (by decide) (fun c_1 => ?_) (fun c_1 => ?_)
  ·
    exact e1_throw hx hb hl0 hown hts (by decide +kernel) tkX3_checkPacked_26 tiX3_checkPacked_26 tgX3_checkPacked_26 vg_2 vo_2 (by decide) hST (List.mem_of_getElem? (i := 7) rfl) hS (hl.1.trans hml.symm) dX3_checkPacked_10 dX3_checkPacked_13 dX3_checkPacked_14 dX3_checkPacked_16 dX3_checkPacked_19 htab (Nat.le_of_ble_eq_true rfl) (Nat.le_of_ble_eq_true rfl) (Nat.le_of_ble_eq_true rfl) (Nat.le_of_ble_eq_true rfl) hlocks (⟨(fun h => absurd h.1 (Int32.not_le.mpr c_1)), rfl⟩) hP (Nat.le_of_ble_eq_true rfl) (Nat.le_of_ble_eq_true rfl)
  ·
    refine lv_iload_n hx hb dX3_checkPacked_4 rfl (lv_at hl 0 rfl) ?_
    refine lv_bipush (v := 60) hx hb dX3_checkPacked_5 (by decide) ?_
    refine lv_icmp_le (tgt := 20) hx hb dX3_checkPacked_7 (by decide) (fun c_7 => ?_) (fun c_7 => ?_)
    ·
      exact e1_v hx hb hr hlocks (⟨Int32.not_lt.mp c_1, c_7⟩) hP hS dX3_checkPacked_20 (by decide) (by decide) (rfl)
    ·
      exact e1_throw hx hb hl0 hown hts (by decide +kernel) tkX3_checkPacked_26 tiX3_checkPacked_26 tgX3_checkPacked_26 vg_2 vo_2 (by decide) hST (List.mem_of_getElem? (i := 7) rfl) hS (hl.1.trans hml.symm) dX3_checkPacked_10 dX3_checkPacked_13 dX3_checkPacked_14 dX3_checkPacked_16 dX3_checkPacked_19 htab (Nat.le_of_ble_eq_true rfl) (Nat.le_of_ble_eq_true rfl) (Nat.le_of_ble_eq_true rfl) (Nat.le_of_ble_eq_true rfl) hlocks (⟨(fun h => c_7 h.2), rfl⟩) hP (Nat.le_of_ble_eq_true rfl) (Nat.le_of_ble_eq_true rfl)

set_option maxHeartbeats 4000000 in
set_option maxRecDepth 100000 in
theorem mX3_checkHours (l : Launch) (D : va_G) (cI cC cT cL : ClassId) (hl0 : l.stackTraces = false) (a : Int32) : M1 l yX3_checkHours wsX3_checkHours ({ frames := 6, cells := 1, slots := 6, locals := 90 } : Room) D (TY cI cC cT cL) [.int a] ([]) (cIn a 1 168) (none) ([]) (fun E => ¬ cIn a 1 168 ∧ E = IAE) 1 6 := by
  refine M1_of (cc := cX3_checkHours) (maxL := 1) (ret := none) (by decide +kernel) rfl (Nat.le_of_ble_eq_true rfl) ?_
  intro p e s m args below meth c A0 B htab ls hl
  obtain ⟨hx, hb, hml, hr, hown, hts, hlocks, hK, hP, hD, hA, hST, hnm⟩ := B
  have hown : s.vm.findClass RX3 = some m.cls := hown
  have hS : va_S A0 s.heap s.heap [] := va_S.rf
  have hl : lv_has ls 1 [(0, .int a)] := hl
  refine lv_iload_n hx hb dX3_checkHours_0 rfl (lv_at hl 0 rfl) ?_
  refine lv_iconst (v := 1) hx hb dX3_checkHours_1 (by decide) ?_
  refine lv_icmp_lt (tgt := 12) hx hb dX3_checkHours_2 (by decide) (fun c_2 => ?_) (fun c_2 => ?_)
  ·
    exact e1_throw hx hb hl0 hown hts (by decide +kernel) tkX3_checkHours_26 tiX3_checkHours_26 tgX3_checkHours_26 vg_2 vo_2 (by decide) hST (List.mem_of_getElem? (i := 15) rfl) hS (hl.1.trans hml.symm) dX3_checkHours_12 dX3_checkHours_15 dX3_checkHours_16 dX3_checkHours_18 dX3_checkHours_21 htab (Nat.le_of_ble_eq_true rfl) (Nat.le_of_ble_eq_true rfl) (Nat.le_of_ble_eq_true rfl) (Nat.le_of_ble_eq_true rfl) hlocks (⟨(fun h => absurd h.1 (Int32.not_le.mpr c_2)), rfl⟩) hP (Nat.le_of_ble_eq_true rfl) (Nat.le_of_ble_eq_true rfl)
  ·
    refine lv_iload_n hx hb dX3_checkHours_5 rfl (lv_at hl 0 rfl) ?_
    refine lv_sipush (v := 168) hx hb dX3_checkHours_6 (by decide) ?_
    refine lv_icmp_le (tgt := 22) hx hb dX3_checkHours_9 (by decide) (fun c_9 => ?_) (fun c_9 => ?_)
    ·
      exact e1_v hx hb hr hlocks (⟨Int32.not_lt.mp c_2, c_9⟩) hP hS dX3_checkHours_22 (by decide) (by decide) (rfl)
    ·
      exact e1_throw hx hb hl0 hown hts (by decide +kernel) tkX3_checkHours_26 tiX3_checkHours_26 tgX3_checkHours_26 vg_2 vo_2 (by decide) hST (List.mem_of_getElem? (i := 15) rfl) hS (hl.1.trans hml.symm) dX3_checkHours_12 dX3_checkHours_15 dX3_checkHours_16 dX3_checkHours_18 dX3_checkHours_21 htab (Nat.le_of_ble_eq_true rfl) (Nat.le_of_ble_eq_true rfl) (Nat.le_of_ble_eq_true rfl) (Nat.le_of_ble_eq_true rfl) hlocks (⟨(fun h => c_9 h.2), rfl⟩) hP (Nat.le_of_ble_eq_true rfl) (Nat.le_of_ble_eq_true rfl)

set_option maxHeartbeats 4000000 in
set_option maxRecDepth 100000 in
theorem mX3_existingChurn (l : Launch) (D : va_G) (cI cC cT cL : ClassId) (hl0 : l.stackTraces = false) (x b0 : Nat) (A : Nat → Nat) (nc nt : Nat) (f g : Nat → Int32) (u : Int32) (hn9 : nc ≤ 4) : M1 l yX3_existingChurn wsX3_existingChurn ({ frames := 6, cells := 1, slots := 6, locals := 90 } : Room) D (TY cI cC cT cL) [.ref x, .int u] (YW cI cC cT x A b0 nc nt f g) (inR u nc) (some (.ref (A (5 + u.toNatClampNeg)))) (YW cI cC cT x A b0 nc nt f g) (fun E => ¬ inR u nc ∧ E = IOOBE) 1 6 := by
  refine M1_of (cc := cX3_existingChurn) (maxL := 2) (ret := (some (.object "ColdCreamery$Churn"))) (by decide +kernel) rfl (Nat.le_of_ble_eq_true rfl) ?_
  intro p e s m args below meth c A0 B htab ls hl
  obtain ⟨hx, hb, hml, hr, hown, hts, hlocks, hK, hP, hD, hA, hST, hnm⟩ := B
  have hown : s.vm.findClass RX3 = some m.cls := hown
  have hS : va_S A0 s.heap s.heap [] := va_S.rf
  have hl : lv_has ls 2 [(0, .ref x), (1, .int u)] := hl
  refine lv_iload_n hx hb dX3_existingChurn_0 rfl (lv_at hl 1 rfl) ?_
  refine lv_if_lt (tgt := 15) hx hb dX3_existingChurn_1 (by decide) (fun c_1 => ?_) (fun c_1 => ?_)
  ·
    exact e1_throw hx hb hl0 hown hts (by decide +kernel) tkX3_existingChurn_19 tiX3_existingChurn_19 tgX3_existingChurn_19 vg_1 vo_1 (by decide) hST (List.mem_of_getElem? (i := 6) rfl) hS (hl.1.trans hml.symm) dX3_existingChurn_15 dX3_existingChurn_18 dX3_existingChurn_19 dX3_existingChurn_21 dX3_existingChurn_24 htab (Nat.le_of_ble_eq_true rfl) (Nat.le_of_ble_eq_true rfl) (Nat.le_of_ble_eq_true rfl) (Nat.le_of_ble_eq_true rfl) hlocks (⟨(fun h => absurd h.1 (Int32.not_le.mpr c_1)), rfl⟩) hP (Nat.le_of_ble_eq_true rfl) (Nat.le_of_ble_eq_true rfl)
  ·
    refine lv_iload_n hx hb dX3_existingChurn_4 rfl (lv_at hl 1 rfl) ?_
    refine lv_aload_n hx hb dX3_existingChurn_5 rfl (lv_at hl 0 rfl) ?_
    refine w_get hx hb hts iX3_existingChurn_X3 hown hK hP 0 rfl rfl 0 (by decide) fX3_existingChurn_10 rfl rfl dX3_existingChurn_6 ?_
    refine w_getN hx hb hts iX3_existingChurn_X0 hown hK hST hP 1 rfl rfl 4 (by decide) 14 rfl rfl rfl dX3_existingChurn_9 ?_
    refine lv_icmp_lt (tgt := 25) hx hb dX3_existingChurn_12 (by decide) (fun c_12 => ?_) (fun c_12 => ?_)
    ·
      obtain ⟨i, hi, ei⟩ := inR_n (by omega) ⟨Int32.not_lt.mp c_1, c_12⟩
      subst ei
      refine lv_aload_n hx hb dX3_existingChurn_25 rfl (lv_at hl 0 rfl) ?_
      refine w_get hx hb hts iX3_existingChurn_X3 hown hK hP 0 rfl rfl 0 (by decide) fX3_existingChurn_10 rfl rfl dX3_existingChurn_26 ?_
      refine w_getN hx hb hts iX3_existingChurn_X0 hown hK hST hP 1 rfl rfl 2 (by decide) 12 rfl rfl rfl dX3_existingChurn_29 ?_
      refine lv_iload_n hx hb dX3_existingChurn_32 rfl (lv_at hl 1 rfl) ?_
      refine w_qld hx hb hK hP 4 1 rfl rfl i rfl (by omega) (by decide) (v := A (5 + i)) rfl dX3_existingChurn_33 ?_
      exact e1_a hx hb hr ⟨_, rfl⟩ hlocks (⟨Int32.not_lt.mp c_1, c_12⟩) hP hS dX3_existingChurn_34 (by decide) (by decide) (by rw [nI_clamp (by omega)])
    ·
      exact e1_throw hx hb hl0 hown hts (by decide +kernel) tkX3_existingChurn_19 tiX3_existingChurn_19 tgX3_existingChurn_19 vg_1 vo_1 (by decide) hST (List.mem_of_getElem? (i := 6) rfl) hS (hl.1.trans hml.symm) dX3_existingChurn_15 dX3_existingChurn_18 dX3_existingChurn_19 dX3_existingChurn_21 dX3_existingChurn_24 htab (Nat.le_of_ble_eq_true rfl) (Nat.le_of_ble_eq_true rfl) (Nat.le_of_ble_eq_true rfl) (Nat.le_of_ble_eq_true rfl) hlocks (⟨(fun h => c_12 h.2), rfl⟩) hP (Nat.le_of_ble_eq_true rfl) (Nat.le_of_ble_eq_true rfl)

set_option maxHeartbeats 4000000 in
set_option maxRecDepth 100000 in
theorem mX3_existingTub (l : Launch) (D : va_G) (cI cC cT cL : ClassId) (hl0 : l.stackTraces = false) (x b0 : Nat) (A : Nat → Nat) (nc nt : Nat) (f g : Nat → Int32) (u : Int32) (hn9 : nt ≤ 6) : M1 l yX3_existingTub wsX3_existingTub ({ frames := 6, cells := 1, slots := 6, locals := 90 } : Room) D (TY cI cC cT cL) [.ref x, .int u] (YW cI cC cT x A b0 nc nt f g) (inR u nt) (some (.ref (A (9 + u.toNatClampNeg)))) (YW cI cC cT x A b0 nc nt f g) (fun E => ¬ inR u nt ∧ E = IOOBE) 1 6 := by
  refine M1_of (cc := cX3_existingTub) (maxL := 2) (ret := (some (.object "ColdCreamery$Tub"))) (by decide +kernel) rfl (Nat.le_of_ble_eq_true rfl) ?_
  intro p e s m args below meth c A0 B htab ls hl
  obtain ⟨hx, hb, hml, hr, hown, hts, hlocks, hK, hP, hD, hA, hST, hnm⟩ := B
  have hown : s.vm.findClass RX3 = some m.cls := hown
  have hS : va_S A0 s.heap s.heap [] := va_S.rf
  have hl : lv_has ls 2 [(0, .ref x), (1, .int u)] := hl
  refine lv_iload_n hx hb dX3_existingTub_0 rfl (lv_at hl 1 rfl) ?_
  refine lv_if_lt (tgt := 15) hx hb dX3_existingTub_1 (by decide) (fun c_1 => ?_) (fun c_1 => ?_)
  ·
    exact e1_throw hx hb hl0 hown hts (by decide +kernel) tkX3_existingTub_19 tiX3_existingTub_19 tgX3_existingTub_19 vg_1 vo_1 (by decide) hST (List.mem_of_getElem? (i := 11) rfl) hS (hl.1.trans hml.symm) dX3_existingTub_15 dX3_existingTub_18 dX3_existingTub_19 dX3_existingTub_21 dX3_existingTub_24 htab (Nat.le_of_ble_eq_true rfl) (Nat.le_of_ble_eq_true rfl) (Nat.le_of_ble_eq_true rfl) (Nat.le_of_ble_eq_true rfl) hlocks (⟨(fun h => absurd h.1 (Int32.not_le.mpr c_1)), rfl⟩) hP (Nat.le_of_ble_eq_true rfl) (Nat.le_of_ble_eq_true rfl)
  ·
    refine lv_iload_n hx hb dX3_existingTub_4 rfl (lv_at hl 1 rfl) ?_
    refine lv_aload_n hx hb dX3_existingTub_5 rfl (lv_at hl 0 rfl) ?_
    refine w_get hx hb hts iX3_existingTub_X3 hown hK hP 0 rfl rfl 0 (by decide) fX3_existingTub_10 rfl rfl dX3_existingTub_6 ?_
    refine w_getN hx hb hts iX3_existingTub_X0 hown hK hST hP 1 rfl rfl 5 (by decide) 15 rfl rfl rfl dX3_existingTub_9 ?_
    refine lv_icmp_lt (tgt := 25) hx hb dX3_existingTub_12 (by decide) (fun c_12 => ?_) (fun c_12 => ?_)
    ·
      obtain ⟨i, hi, ei⟩ := inR_n (by omega) ⟨Int32.not_lt.mp c_1, c_12⟩
      subst ei
      refine lv_aload_n hx hb dX3_existingTub_25 rfl (lv_at hl 0 rfl) ?_
      refine w_get hx hb hts iX3_existingTub_X3 hown hK hP 0 rfl rfl 0 (by decide) fX3_existingTub_10 rfl rfl dX3_existingTub_26 ?_
      refine w_getN hx hb hts iX3_existingTub_X0 hown hK hST hP 1 rfl rfl 3 (by decide) 13 rfl rfl rfl dX3_existingTub_29 ?_
      refine lv_iload_n hx hb dX3_existingTub_32 rfl (lv_at hl 1 rfl) ?_
      refine w_qld hx hb hK hP 5 2 rfl rfl i rfl (by omega) (by decide) (v := A (9 + i)) rfl dX3_existingTub_33 ?_
      exact e1_a hx hb hr ⟨_, rfl⟩ hlocks (⟨Int32.not_lt.mp c_1, c_12⟩) hP hS dX3_existingTub_34 (by decide) (by decide) (by rw [nI_clamp (by omega)])
    ·
      exact e1_throw hx hb hl0 hown hts (by decide +kernel) tkX3_existingTub_19 tiX3_existingTub_19 tgX3_existingTub_19 vg_1 vo_1 (by decide) hST (List.mem_of_getElem? (i := 11) rfl) hS (hl.1.trans hml.symm) dX3_existingTub_15 dX3_existingTub_18 dX3_existingTub_19 dX3_existingTub_21 dX3_existingTub_24 htab (Nat.le_of_ble_eq_true rfl) (Nat.le_of_ble_eq_true rfl) (Nat.le_of_ble_eq_true rfl) (Nat.le_of_ble_eq_true rfl) hlocks (⟨(fun h => c_12 h.2), rfl⟩) hP (Nat.le_of_ble_eq_true rfl) (Nat.le_of_ble_eq_true rfl)

set_option maxHeartbeats 4000000 in
set_option maxRecDepth 100000 in
theorem mX3_bring (l : Launch) (D : va_G) (cI cC cT cL : ClassId) (hl0 : l.stackTraces = false) (x b0 : Nat) (A : Nat → Nat) (nc nt : Nat) (f g : Nat → Int32) (u v : Int32) : M1 l yX3_bring wsX3_bring ({ frames := 6, cells := 1, slots := 6, locals := 90 } : Room) D (TY cI cC cT cL) [.ref x, .int u, .int v] (YW cI cC cT x A b0 nc nt f g) (kBring u v = 0) (some (.int (bringF f u.toNatClampNeg v (u.toNatClampNeg + 1)))) (YW cI cC cT x A b0 nc nt (bringF f u.toNatClampNeg v) g) (XE (kBring u v) IOOBE IAE ISE) 1 6 := by
  refine M1_of (cc := cX3_bring) (maxL := 3) (ret := (some .int)) (by decide +kernel) rfl (Nat.le_of_ble_eq_true rfl) ?_
  intro p e s m args below meth c A0 B htab ls hl
  obtain ⟨hx, hb, hml, hr, hown, hts, hlocks, hK, hP, hD, hA, hST, hnm⟩ := B
  have hown : s.vm.findClass RX3 = some m.cls := hown
  have hS : va_S A0 s.heap s.heap [] := va_S.rf
  have hl : lv_has ls 3 [(0, .ref x), (1, .int u), (2, .int v)] := hl
  obtain ⟨-, -, -, -, -, -, -, -, ⟨tS, hZ1, hT1⟩, hAA, hAO1, hAO2⟩ := id hST
  refine lv_iload_n hx hb dX3_bring_0 rfl (lv_at hl 1 rfl) ?_
  refine lv_if_lt (tgt := 9) hx hb dX3_bring_1 (by decide) (fun c_1 => ?_) (fun c_1 => ?_)
  ·
    exact e1_throw hx hb hl0 hown hts (by decide +kernel) tkX3_bring_19 tiX3_bring_19 tgX3_bring_19 vg_1 vo_1 (by decide) hST (List.mem_of_getElem? (i := 0) rfl) hS (hl.1.trans hml.symm) dX3_bring_9 dX3_bring_12 dX3_bring_13 dX3_bring_15 dX3_bring_18 htab (Nat.le_of_ble_eq_true rfl) (Nat.le_of_ble_eq_true rfl) (Nat.le_of_ble_eq_true rfl) (Nat.le_of_ble_eq_true rfl) hlocks (Or.inl ⟨by rw [kBring, if_neg (fun h => absurd h.1 (Int32.not_le.mpr c_1))], rfl⟩) hP (Nat.le_of_ble_eq_true rfl) (Nat.le_of_ble_eq_true rfl)
  ·
    refine lv_iload_n hx hb dX3_bring_4 rfl (lv_at hl 1 rfl) ?_
    refine lv_iconst (v := 3) hx hb dX3_bring_5 (by decide) ?_
    refine lv_icmp_le (tgt := 19) hx hb dX3_bring_6 (by decide) (fun c_6 => ?_) (fun c_6 => ?_)
    ·
      refine lv_iload_n hx hb dX3_bring_19 rfl (lv_at hl 2 rfl) ?_
      refine lv_iconst (v := 1) hx hb dX3_bring_20 (by decide) ?_
      refine lv_icmp_lt (tgt := 31) hx hb dX3_bring_21 (by decide) (fun c_21 => ?_) (fun c_21 => ?_)
      ·
        exact e1_throw hx hb hl0 hown hts (by decide +kernel) tkX3_bring_26 tiX3_bring_26 tgX3_bring_26 vg_2 vo_2 (by decide) hST (List.mem_of_getElem? (i := 1) rfl) hS (hl.1.trans hml.symm) dX3_bring_31 dX3_bring_34 dX3_bring_35 dX3_bring_37 dX3_bring_40 htab (Nat.le_of_ble_eq_true rfl) (Nat.le_of_ble_eq_true rfl) (Nat.le_of_ble_eq_true rfl) (Nat.le_of_ble_eq_true rfl) hlocks (Or.inr (Or.inl ⟨by rw [kBring, if_pos ⟨Int32.not_lt.mp c_1, c_6⟩, if_neg (fun h => absurd h.1 (Int32.not_le.mpr c_21))], rfl⟩)) hP (Nat.le_of_ble_eq_true rfl) (Nat.le_of_ble_eq_true rfl)
      ·
        refine lv_iload_n hx hb dX3_bring_24 rfl (lv_at hl 2 rfl) ?_
        refine lv_sipush (v := 300) hx hb dX3_bring_25 (by decide) ?_
        refine lv_icmp_le (tgt := 41) hx hb dX3_bring_28 (by decide) (fun c_28 => ?_) (fun c_28 => ?_)
        ·
          obtain ⟨w, hw, ew⟩ := cIn_n 3 (by decide) (Int32.not_lt.mp c_1) c_6
          subst ew
          refine lv_aload_n hx hb dX3_bring_41 rfl (lv_at hl 0 rfl) ?_
          refine w_get hx hb hts iX3_bring_X3 hown hK hP 0 rfl rfl 0 (by decide) fX3_bring_10 rfl rfl dX3_bring_42 ?_
          refine w_getN hx hb hts iX3_bring_X0 hown hK hST hP 1 rfl rfl 0 (by decide) 10 rfl rfl rfl dX3_bring_45 ?_
          refine lv_iload_n hx hb dX3_bring_48 rfl (lv_at hl 1 rfl) ?_
          refine va_gets hx hb hZ1 hS hown (hts _ fX3_bring_35) (fun _ h9 => h9) dX3_bring_49 ?_
          refine lv_iload_n hx hb dX3_bring_52 rfl (lv_at hl 1 rfl) ?_
          refine va_ti hx hb hT1 hS (nin rfl (by omega) (by decide)) (v := .int (limF w)) (by rw [nI_clamp (by omega)]) dX3_bring_53 ?_
          refine lv_aload_n hx hb dX3_bring_54 rfl (lv_at hl 0 rfl) ?_
          refine w_get hx hb hts iX3_bring_X3 hown hK hP 0 rfl rfl 0 (by decide) fX3_bring_10 rfl rfl dX3_bring_55 ?_
          refine w_getN hx hb hts iX3_bring_X0 hown hK hST hP 1 rfl rfl 0 (by decide) 10 rfl rfl rfl dX3_bring_58 ?_
          refine lv_iload_n hx hb dX3_bring_61 rfl (lv_at hl 1 rfl) ?_
          refine w_ild hx hb hK hP 2 0 rfl rfl w rfl (by omega) (by decide) (v := f (w + 1)) (stk_at (by omega)) dX3_bring_62 ?_
          refine lv_iload_n hx hb dX3_bring_63 rfl (lv_at hl 2 rfl) ?_
          refine lv_iadd hx hb dX3_bring_64 ?_
          refine va_mmin hx hb (hml.trans hl.1.symm) hown (hts _ mlX3_bring_38) (hts _ msX3_bring_min) (hts _ miX3_bring) (hts _ mcX3_bring_min) (Nat.le_of_ble_eq_true rfl) (Nat.le_of_ble_eq_true rfl) (Nat.le_of_ble_eq_true rfl) (Nat.le_of_ble_eq_true rfl) dX3_bring_65 ?_
          refine w_ist hx hb hK hP hD hS 2 0 rfl rfl w rfl (by omega) (by decide) (ws' := YW cI cC cT x A b0 nc nt (upd f (w + 1) (imn (limF w) ((f (w + 1)) + v))) g) (congrArg (List.cons _) (cw_stock w (by omega) _)) dX3_bring_68 (fun H locs hP hD hS => ?_)
          refine lv_aload_n hx hb dX3_bring_69 rfl (lv_at hl 0 rfl) ?_
          refine w_get hx hb hts iX3_bring_X3 hown hK hP 0 rfl rfl 0 (by decide) fX3_bring_10 rfl rfl dX3_bring_70 ?_
          refine w_getN hx hb hts iX3_bring_X0 hown hK hST hP 1 rfl rfl 0 (by decide) 10 rfl rfl rfl dX3_bring_73 ?_
          refine lv_iload_n hx hb dX3_bring_76 rfl (lv_at hl 1 rfl) ?_
          refine w_ild hx hb hK hP 2 0 rfl rfl w rfl (by omega) (by decide) (v := (upd f (w + 1) (imn (limF w) ((f (w + 1)) + v))) (w + 1)) (stk_at (by omega)) dX3_bring_77 ?_
          exact e1_i hx hb hr hlocks (by rw [kBring, if_pos ⟨Int32.not_lt.mp c_1, c_6⟩, if_pos ⟨Int32.not_lt.mp c_21, c_28⟩]) (P_eq (by rw [nI_clamp (by omega)]; rfl) hP) hS dX3_bring_78 (by decide) (by decide) (by rw [nI_clamp (by omega)]; rfl)
        ·
          exact e1_throw hx hb hl0 hown hts (by decide +kernel) tkX3_bring_26 tiX3_bring_26 tgX3_bring_26 vg_2 vo_2 (by decide) hST (List.mem_of_getElem? (i := 1) rfl) hS (hl.1.trans hml.symm) dX3_bring_31 dX3_bring_34 dX3_bring_35 dX3_bring_37 dX3_bring_40 htab (Nat.le_of_ble_eq_true rfl) (Nat.le_of_ble_eq_true rfl) (Nat.le_of_ble_eq_true rfl) (Nat.le_of_ble_eq_true rfl) hlocks (Or.inr (Or.inl ⟨by rw [kBring, if_pos ⟨Int32.not_lt.mp c_1, c_6⟩, if_neg (fun h => c_28 h.2)], rfl⟩)) hP (Nat.le_of_ble_eq_true rfl) (Nat.le_of_ble_eq_true rfl)
    ·
      exact e1_throw hx hb hl0 hown hts (by decide +kernel) tkX3_bring_19 tiX3_bring_19 tgX3_bring_19 vg_1 vo_1 (by decide) hST (List.mem_of_getElem? (i := 0) rfl) hS (hl.1.trans hml.symm) dX3_bring_9 dX3_bring_12 dX3_bring_13 dX3_bring_15 dX3_bring_18 htab (Nat.le_of_ble_eq_true rfl) (Nat.le_of_ble_eq_true rfl) (Nat.le_of_ble_eq_true rfl) (Nat.le_of_ble_eq_true rfl) hlocks (Or.inl ⟨by rw [kBring, if_neg (fun h => c_6 h.2)], rfl⟩) hP (Nat.le_of_ble_eq_true rfl) (Nat.le_of_ble_eq_true rfl)

theorem le6 {x : Int32} (h : x < 7) : x ≤ 6 := by
  rw [i_lt, show (7 : Int32).toInt = 7 by decide] at h
  rw [i_le, show (6 : Int32).toInt = 6 by decide]
  omega
theorem lt7 {x : Int32} (h : x ≤ 6) : x < 7 := by
  rw [i_le, show (6 : Int32).toInt = 6 by decide] at h
  rw [i_lt, show (7 : Int32).toInt = 7 by decide]
  omega
theorem le2 {x : Int32} (h : x < 3) : x ≤ 2 := by
  rw [i_lt, show (3 : Int32).toInt = 3 by decide] at h
  rw [i_le, show (2 : Int32).toInt = 2 by decide]
  omega
theorem lt3 {x : Int32} (h : x ≤ 2) : x < 3 := by
  rw [i_le, show (2 : Int32).toInt = 2 by decide] at h
  rw [i_lt, show (3 : Int32).toInt = 3 by decide]
  omega
theorem le9 {x : Int32} (h : x < 10) : x ≤ 9 := by
  rw [i_lt, show (10 : Int32).toInt = 10 by decide] at h
  rw [i_le, show (9 : Int32).toInt = 9 by decide]
  omega
theorem lt10 {x : Int32} (h : x ≤ 9) : x < 10 := by
  rw [i_le, show (9 : Int32).toInt = 9 by decide] at h
  rw [i_lt, show (10 : Int32).toInt = 10 by decide]
  omega

set_option maxHeartbeats 4000000 in
set_option maxRecDepth 100000 in
theorem mX3_setHeat (l : Launch) (D : va_G) (cI cC cT cL : ClassId) (hl0 : l.stackTraces = false) (x b0 : Nat) (A : Nat → Nat) (nc nt : Nat) (f g : Nat → Int32) (u v : Int32) : M1 l yX3_setHeat wsX3_setHeat ({ frames := 6, cells := 1, slots := 6, locals := 90 } : Room) D (TY cI cC cT cL) [.ref x, .int u, .int v] (YW cI cC cT x A b0 nc nt f g) (kHeat u v = 0) (some (.int (g u.toNatClampNeg))) (YW cI cC cT x A b0 nc nt f (upd g u.toNatClampNeg v)) (XE (kHeat u v) IOOBE IAE ISE) 1 6 := by
  refine M1_of (cc := cX3_setHeat) (maxL := 4) (ret := (some .int)) (by decide +kernel) rfl (Nat.le_of_ble_eq_true rfl) ?_
  intro p e s m args below meth c A0 B htab ls hl
  obtain ⟨hx, hb, hml, hr, hown, hts, hlocks, hK, hP, hD, hA, hST, hnm⟩ := B
  have hown : s.vm.findClass RX3 = some m.cls := hown
  have hS : va_S A0 s.heap s.heap [] := va_S.rf
  have hl : lv_has ls 4 [(0, .ref x), (1, .int u), (2, .int v)] := hl
  refine lv_iload_n hx hb dX3_setHeat_0 rfl (lv_at hl 1 rfl) ?_
  refine lv_if_lt (tgt := 10) hx hb dX3_setHeat_1 (by decide) (fun c_1 => ?_) (fun c_1 => ?_)
  ·
    exact e1_throw hx hb hl0 hown hts (by decide +kernel) tkX3_setHeat_19 tiX3_setHeat_19 tgX3_setHeat_19 vg_1 vo_1 (by decide) hST (List.mem_of_getElem? (i := 2) rfl) hS (hl.1.trans hml.symm) dX3_setHeat_10 dX3_setHeat_13 dX3_setHeat_14 dX3_setHeat_16 dX3_setHeat_19 htab (Nat.le_of_ble_eq_true rfl) (Nat.le_of_ble_eq_true rfl) (Nat.le_of_ble_eq_true rfl) (Nat.le_of_ble_eq_true rfl) hlocks (Or.inl ⟨by rw [kHeat, if_neg (fun h => absurd h.1 (Int32.not_le.mpr c_1))], rfl⟩) hP (Nat.le_of_ble_eq_true rfl) (Nat.le_of_ble_eq_true rfl)
  ·
    refine lv_iload_n hx hb dX3_setHeat_4 rfl (lv_at hl 1 rfl) ?_
    refine lv_bipush (v := 7) hx hb dX3_setHeat_5 (by decide) ?_
    refine lv_icmp_lt (tgt := 20) hx hb dX3_setHeat_7 (by decide) (fun c_7 => ?_) (fun c_7 => ?_)
    ·
      refine lv_iload_n hx hb dX3_setHeat_20 rfl (lv_at hl 2 rfl) ?_
      refine lv_if_lt (tgt := 30) hx hb dX3_setHeat_21 (by decide) (fun c_21 => ?_) (fun c_21 => ?_)
      ·
        exact e1_throw hx hb hl0 hown hts (by decide +kernel) tkX3_setHeat_26 tiX3_setHeat_26 tgX3_setHeat_26 vg_2 vo_2 (by decide) hST (List.mem_of_getElem? (i := 3) rfl) hS (hl.1.trans hml.symm) dX3_setHeat_30 dX3_setHeat_33 dX3_setHeat_34 dX3_setHeat_36 dX3_setHeat_39 htab (Nat.le_of_ble_eq_true rfl) (Nat.le_of_ble_eq_true rfl) (Nat.le_of_ble_eq_true rfl) (Nat.le_of_ble_eq_true rfl) hlocks (Or.inr (Or.inl ⟨by rw [kHeat, if_pos ⟨Int32.not_lt.mp c_1, le6 c_7⟩, if_neg (fun h => absurd h.1 (Int32.not_le.mpr c_21))], rfl⟩)) hP (Nat.le_of_ble_eq_true rfl) (Nat.le_of_ble_eq_true rfl)
      ·
        refine lv_iload_n hx hb dX3_setHeat_24 rfl (lv_at hl 2 rfl) ?_
        refine lv_bipush (v := 40) hx hb dX3_setHeat_25 (by decide) ?_
        refine lv_icmp_le (tgt := 40) hx hb dX3_setHeat_27 (by decide) (fun c_27 => ?_) (fun c_27 => ?_)
        ·
          obtain ⟨w, hw, ew⟩ := cIn_n 6 (by decide) (Int32.not_lt.mp c_1) (le6 c_7)
          subst ew
          refine lv_aload_n hx hb dX3_setHeat_40 rfl (lv_at hl 0 rfl) ?_
          refine w_get hx hb hts iX3_setHeat_X3 hown hK hP 0 rfl rfl 0 (by decide) fX3_setHeat_10 rfl rfl dX3_setHeat_41 ?_
          refine w_getN hx hb hts iX3_setHeat_X0 hown hK hST hP 1 rfl rfl 1 (by decide) 11 rfl rfl rfl dX3_setHeat_44 ?_
          refine lv_iload_n hx hb dX3_setHeat_47 rfl (lv_at hl 1 rfl) ?_
          refine w_ild hx hb hK hP 3 0 rfl rfl w rfl (by omega) (by decide) (v := g w) rfl dX3_setHeat_48 ?_
          refine lv_istore_n (lv' := [(3, .int (g w)), (0, .ref x), (1, .int (nI w)), (2, .int v)]) hx hb dX3_setHeat_49 rfl hl (by decide) rfl (fun ls hl => ?_)
          refine lv_aload_n hx hb dX3_setHeat_50 rfl (lv_at hl 1 rfl) ?_
          refine w_get hx hb hts iX3_setHeat_X3 hown hK hP 0 rfl rfl 0 (by decide) fX3_setHeat_10 rfl rfl dX3_setHeat_51 ?_
          refine w_getN hx hb hts iX3_setHeat_X0 hown hK hST hP 1 rfl rfl 1 (by decide) 11 rfl rfl rfl dX3_setHeat_54 ?_
          refine lv_iload_n hx hb dX3_setHeat_57 rfl (lv_at hl 2 rfl) ?_
          refine lv_iload_n hx hb dX3_setHeat_58 rfl (lv_at hl 3 rfl) ?_
          refine w_ist hx hb hK hP hD hS 3 0 rfl rfl w rfl (by omega) (by decide) (ws' := YW cI cC cT x A b0 nc nt f (upd g w v)) rfl dX3_setHeat_59 (fun H locs hP hD hS => ?_)
          refine lv_iload_n hx hb dX3_setHeat_60 rfl (lv_at hl 0 rfl) ?_
          exact e1_i hx hb hr hlocks (by rw [kHeat, if_pos ⟨Int32.not_lt.mp c_1, le6 c_7⟩, if_pos ⟨Int32.not_lt.mp c_21, c_27⟩]) (P_eq (by rw [nI_clamp (by omega)]) hP) hS dX3_setHeat_61 (by decide) (by decide) (by rw [nI_clamp (by omega)])
        ·
          exact e1_throw hx hb hl0 hown hts (by decide +kernel) tkX3_setHeat_26 tiX3_setHeat_26 tgX3_setHeat_26 vg_2 vo_2 (by decide) hST (List.mem_of_getElem? (i := 3) rfl) hS (hl.1.trans hml.symm) dX3_setHeat_30 dX3_setHeat_33 dX3_setHeat_34 dX3_setHeat_36 dX3_setHeat_39 htab (Nat.le_of_ble_eq_true rfl) (Nat.le_of_ble_eq_true rfl) (Nat.le_of_ble_eq_true rfl) (Nat.le_of_ble_eq_true rfl) hlocks (Or.inr (Or.inl ⟨by rw [kHeat, if_pos ⟨Int32.not_lt.mp c_1, le6 c_7⟩, if_neg (fun h => c_27 h.2)], rfl⟩)) hP (Nat.le_of_ble_eq_true rfl) (Nat.le_of_ble_eq_true rfl)
    ·
      exact e1_throw hx hb hl0 hown hts (by decide +kernel) tkX3_setHeat_19 tiX3_setHeat_19 tgX3_setHeat_19 vg_1 vo_1 (by decide) hST (List.mem_of_getElem? (i := 2) rfl) hS (hl.1.trans hml.symm) dX3_setHeat_10 dX3_setHeat_13 dX3_setHeat_14 dX3_setHeat_16 dX3_setHeat_19 htab (Nat.le_of_ble_eq_true rfl) (Nat.le_of_ble_eq_true rfl) (Nat.le_of_ble_eq_true rfl) (Nat.le_of_ble_eq_true rfl) hlocks (Or.inl ⟨by rw [kHeat, if_neg (fun h => c_7 (lt7 h.2))], rfl⟩) hP (Nat.le_of_ble_eq_true rfl) (Nat.le_of_ble_eq_true rfl)

set_option maxHeartbeats 4000000 in
set_option maxRecDepth 100000 in
theorem mX3_churn (l : Launch) (D : va_G) (cI cC cT cL : ClassId) (hl0 : l.stackTraces = false) (x b0 : Nat) (A : Nat → Nat) (nc nt : Nat) (f g : Nat → Int32)  : M1 l yX3_churn wsX3_churn ({ frames := 6, cells := 1, slots := 6, locals := 90 } : Room) D (TY cI cC cT cL) [.ref x] (YW cI cC cT x A b0 nc nt f g) (kChurn nc = 0) (some (.int (nI nc))) (YW cI cC cT x A b0 (nc + 1) nt f g) (XE (kChurn nc) ISE IAE IOOBE) 1 6 := by
  refine M1_of (cc := cX3_churn) (maxL := 2) (ret := (some .int)) (by decide +kernel) rfl (Nat.le_of_ble_eq_true rfl) ?_
  intro p e s m args below meth c A0 B htab ls hl
  obtain ⟨hx, hb, hml, hr, hown, hts, hlocks, hK, hP, hD, hA, hST, hnm⟩ := B
  have hown : s.vm.findClass RX3 = some m.cls := hown
  have hS : va_S A0 s.heap s.heap [] := va_S.rf
  have hl : lv_has ls 2 [(0, .ref x)] := hl
  refine lv_aload_n hx hb dX3_churn_0 rfl (lv_at hl 0 rfl) ?_
  refine w_get hx hb hts iX3_churn_X3 hown hK hP 0 rfl rfl 0 (by decide) fX3_churn_10 rfl rfl dX3_churn_1 ?_
  refine w_getN hx hb hts iX3_churn_X0 hown hK hST hP 1 rfl rfl 4 (by decide) 14 rfl rfl rfl dX3_churn_4 ?_
  refine lv_iconst (v := 4) hx hb dX3_churn_7 (by decide) ?_
  refine lv_icmp_lt (tgt := 21) hx hb dX3_churn_8 (by decide) (fun c_8 => ?_) (fun c_8 => ?_)
  ·
    refine lv_aload_n hx hb dX3_churn_21 rfl (lv_at hl 0 rfl) ?_
    refine w_get hx hb hts iX3_churn_X3 hown hK hP 0 rfl rfl 0 (by decide) fX3_churn_10 rfl rfl dX3_churn_22 ?_
    refine w_getN hx hb hts iX3_churn_X0 hown hK hST hP 1 rfl rfl 4 (by decide) 14 rfl rfl rfl dX3_churn_25 ?_
    refine lv_istore_n (lv' := [(1, .int (nI nc)), (0, .ref x)]) hx hb dX3_churn_28 rfl hl (by decide) rfl (fun ls hl => ?_)
    refine lv_aload_n hx hb dX3_churn_29 rfl (lv_at hl 1 rfl) ?_
    refine w_get hx hb hts iX3_churn_X3 hown hK hP 0 rfl rfl 0 (by decide) fX3_churn_10 rfl rfl dX3_churn_30 ?_
    refine lv_iload_n hx hb dX3_churn_33 rfl (lv_at hl 0 rfl) ?_
    refine lv_iconst (v := 1) hx hb dX3_churn_34 (by decide) ?_
    refine lv_iadd hx hb dX3_churn_35 ?_
    refine w_putN (C := RX0) hx hb hts iX3_churn_X0 tyX0_ok nmX0 hown hK hST hP hD hS 1 rfl rfl 4 (by decide) 14 rfl rfl rfl rfl rfl (Nat.le_of_ble_eq_true rfl) (ws' := YW cI cC cT x A b0 (nc + 1) nt f g) (congrArg (List.cons _) (by rw [← nI_succ]; rfl)) dX3_churn_36 (fun H locs hP hD hS => ?_)
    refine lv_iload_n hx hb dX3_churn_39 rfl (lv_at hl 0 rfl) ?_
    exact e1_i hx hb hr hlocks (by rw [kChurn, if_pos c_8]) hP hS dX3_churn_40 (by decide) (by decide) (rfl)
  ·
    exact e1_throw hx hb hl0 hown hts (by decide +kernel) tkX3_churn_55 tiX3_churn_55 tgX3_churn_55 vg_3 vo_3 (by decide) hST (List.mem_of_getElem? (i := 4) rfl) hS (hl.1.trans hml.symm) dX3_churn_11 dX3_churn_14 dX3_churn_15 dX3_churn_17 dX3_churn_20 htab (Nat.le_of_ble_eq_true rfl) (Nat.le_of_ble_eq_true rfl) (Nat.le_of_ble_eq_true rfl) (Nat.le_of_ble_eq_true rfl) hlocks (Or.inl ⟨by rw [kChurn, if_neg c_8], rfl⟩) hP (Nat.le_of_ble_eq_true rfl) (Nat.le_of_ble_eq_true rfl)

set_option maxHeartbeats 4000000 in
set_option maxRecDepth 100000 in
theorem mX3_tub (l : Launch) (D : va_G) (cI cC cT cL : ClassId) (hl0 : l.stackTraces = false) (x b0 : Nat) (A : Nat → Nat) (nc nt : Nat) (f g : Nat → Int32)  : M1 l yX3_tub wsX3_tub ({ frames := 6, cells := 1, slots := 6, locals := 90 } : Room) D (TY cI cC cT cL) [.ref x] (YW cI cC cT x A b0 nc nt f g) (kTub nt = 0) (some (.int (nI nt))) (YW cI cC cT x A b0 nc (nt + 1) f g) (XE (kTub nt) ISE IAE IOOBE) 1 6 := by
  refine M1_of (cc := cX3_tub) (maxL := 2) (ret := (some .int)) (by decide +kernel) rfl (Nat.le_of_ble_eq_true rfl) ?_
  intro p e s m args below meth c A0 B htab ls hl
  obtain ⟨hx, hb, hml, hr, hown, hts, hlocks, hK, hP, hD, hA, hST, hnm⟩ := B
  have hown : s.vm.findClass RX3 = some m.cls := hown
  have hS : va_S A0 s.heap s.heap [] := va_S.rf
  have hl : lv_has ls 2 [(0, .ref x)] := hl
  refine lv_aload_n hx hb dX3_tub_0 rfl (lv_at hl 0 rfl) ?_
  refine w_get hx hb hts iX3_tub_X3 hown hK hP 0 rfl rfl 0 (by decide) fX3_tub_10 rfl rfl dX3_tub_1 ?_
  refine w_getN hx hb hts iX3_tub_X0 hown hK hST hP 1 rfl rfl 5 (by decide) 15 rfl rfl rfl dX3_tub_4 ?_
  refine lv_bipush (v := 6) hx hb dX3_tub_7 (by decide) ?_
  refine lv_icmp_lt (tgt := 22) hx hb dX3_tub_9 (by decide) (fun c_9 => ?_) (fun c_9 => ?_)
  ·
    refine lv_aload_n hx hb dX3_tub_22 rfl (lv_at hl 0 rfl) ?_
    refine w_get hx hb hts iX3_tub_X3 hown hK hP 0 rfl rfl 0 (by decide) fX3_tub_10 rfl rfl dX3_tub_23 ?_
    refine w_getN hx hb hts iX3_tub_X0 hown hK hST hP 1 rfl rfl 5 (by decide) 15 rfl rfl rfl dX3_tub_26 ?_
    refine lv_istore_n (lv' := [(1, .int (nI nt)), (0, .ref x)]) hx hb dX3_tub_29 rfl hl (by decide) rfl (fun ls hl => ?_)
    refine lv_aload_n hx hb dX3_tub_30 rfl (lv_at hl 1 rfl) ?_
    refine w_get hx hb hts iX3_tub_X3 hown hK hP 0 rfl rfl 0 (by decide) fX3_tub_10 rfl rfl dX3_tub_31 ?_
    refine lv_iload_n hx hb dX3_tub_34 rfl (lv_at hl 0 rfl) ?_
    refine lv_iconst (v := 1) hx hb dX3_tub_35 (by decide) ?_
    refine lv_iadd hx hb dX3_tub_36 ?_
    refine w_putN (C := RX0) hx hb hts iX3_tub_X0 tyX0_ok nmX0 hown hK hST hP hD hS 1 rfl rfl 5 (by decide) 15 rfl rfl rfl rfl rfl (Nat.le_of_ble_eq_true rfl) (ws' := YW cI cC cT x A b0 nc (nt + 1) f g) (congrArg (List.cons _) (by rw [← nI_succ]; rfl)) dX3_tub_37 (fun H locs hP hD hS => ?_)
    refine lv_iload_n hx hb dX3_tub_40 rfl (lv_at hl 0 rfl) ?_
    exact e1_i hx hb hr hlocks (by rw [kTub, if_pos c_9]) hP hS dX3_tub_41 (by decide) (by decide) (rfl)
  ·
    exact e1_throw hx hb hl0 hown hts (by decide +kernel) tkX3_tub_55 tiX3_tub_55 tgX3_tub_55 vg_3 vo_3 (by decide) hST (List.mem_of_getElem? (i := 5) rfl) hS (hl.1.trans hml.symm) dX3_tub_12 dX3_tub_15 dX3_tub_16 dX3_tub_18 dX3_tub_21 htab (Nat.le_of_ble_eq_true rfl) (Nat.le_of_ble_eq_true rfl) (Nat.le_of_ble_eq_true rfl) (Nat.le_of_ble_eq_true rfl) hlocks (Or.inl ⟨by rw [kTub, if_neg c_9], rfl⟩) hP (Nat.le_of_ble_eq_true rfl) (Nat.le_of_ble_eq_true rfl)
