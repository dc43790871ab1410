theorem dc_self {x : UInt64} (h : vf_n64 x) : Op.cmpValue (FP.dcmp x x) CmpOp.l = 0 := by
  rw [show FP.dcmp x x = some .eq from FP.Core.dcmp_self (Fl.val64_no.mp h)]
  rfl
theorem pm_mid (a b c : va_W) : (a ++ (b ++ c)).Perm (b ++ (a ++ c)) := by
  rw [← List.append_assoc, ← List.append_assoc]
  exact List.perm_append_comm.append_right c
theorem mo_up {C : Nat → Nat} {j : Nat} : va_up (fun i => if i < j then some (C i) else none) j (some (C j)) = fun i => if i < j + 1 then some (C i) else none := by
  funext i
  unfold va_up
  by_cases h : i = j
  · subst h; simp
  · by_cases h2 : i < j
    · simp [h, h2, Nat.lt_succ_of_lt h2]
    · simp [h, h2, show ¬ i < j + 1 by omega]
theorem mo_end {C : Nat → Nat} {n q j : Nat} (hj : j < n + 1) : va_up (fun i => if i < n then some (C i) else none) n (some q) j = some (if j < n then C j else q) := by
  unfold va_up
  by_cases h : j = n
  · subst h; simp
  · simp [h, show j < n by omega]
theorem k_told {n i w : Nat} (hn : n ≤ 6) (hi : i < n) (hw : w < 3) : kTold n (nI i) (nI w) = 0 := by
  have e2 : (2 : Int32) = nI 2 := rfl
  rw [kTold, if_pos ⟨nI_pos' (by omega), nI_lt hi (by omega)⟩, if_pos ⟨nI_pos' (by omega), by rw [e2]; exact nI_le (by omega) (by decide)⟩]
theorem k_count {w : Nat} (hw : w < 10) : kCount (nI w) = 0 := by
  have e9 : (9 : Int32) = nI 9 := rfl
  rw [kCount, if_pos ⟨nI_pos' (by omega), by rw [e9]; exact nI_le (by omega) (by decide)⟩]
theorem sh_0 {nt : Nat} {f : Nat → Int32} (h : sumD f nt + f 6 = 0) : shareF nt f = FP.dconst0 := if_pos h
theorem sh_1 {nt : Nat} {f : Nat → Int32} (h : ¬ sumD f nt + f 6 = 0) : shareF nt f = FP.ddiv (FP.i2d (sumD f nt)) (FP.i2d (sumD f nt + f 6)) := if_neg h
theorem sh_z : vf_n64 FP.dconst0 := by unfold vf_n64; decide +kernel
theorem yw_fst {cI cC cT : ClassId} {x b0 : Nat} {A : Nat → Nat} {nc nt nc' nt' : Nat} {f g f' g' : Nat → Int32} : (YW cI cC cT x A b0 nc' nt' f' g').map (fun q => q.1) = (YW cI cC cT x A b0 nc nt f g).map (fun q => q.1) := rfl
theorem cw_fst {cI cC cT : ClassId} {A : Nat → Nat} {nc nt nc' nt' : Nat} {f g f' g' : Nat → Int32} : (CW cI cC cT A nc' nt' f' g').map (fun q => q.1) = (CW cI cC cT A nc nt f g).map (fun q => q.1) := rfl
theorem pm_drop (a b : va_W) : (a ++ b).Perm (b ++ a) := List.perm_append_comm

set_option maxHeartbeats 4000000 in
set_option maxRecDepth 100000 in
theorem mX4_init (l : Launch) (D : va_G) (cI cC cT cL : ClassId) (h0 : Nat) : MX l yX4_init wsX4_init ({ frames := 1, cells := 4, slots := 11, locals := 40 } : Room) (E0) D (TY cI cC cT cL) [.ref h0] (([(h0, .inr (4, [.int 0, .null, .int 0, .int 0, .null, .null, .null]))] : va_W)) (fun o w => o = none ∧ ∃ S C T : Nat → Nat, S 0 = h0 ∧ w = SM cI cL S C T 0 0 (fun _ => 0) (fun _ => 20)) 4 11 := by
  refine MX_of (cc := cX4_init) (maxL := 1) (ret := none) (by decide +kernel) rfl (Nat.le_of_ble_eq_true rfl) ?_
  intro p e s m args below meth c A0 B hE ls hl
  obtain ⟨hx, hb, hml, hr, hown, hts, hlocks, hK, hP, hD, hA, hST, hnm⟩ := B
  have hown : s.vm.findClass RX4 = some m.cls := hown
  have hS : va_S A0 s.heap s.heap [] := va_S.rf
  have hl : lv_has ls 1 [(0, .ref h0)] := hl
  have hAA : va_AOA .int s := hST.2.2.2.2.2.2.2.2.2.1
  refine lv_aload_n hx hb dX4_init_0 rfl (lv_at hl 0 rfl) ?_
  refine W.objInit hx hb hown (hts _ oiX4_init) (hts _ ojX4_init) (hts _ okX4_init) rfl (by rw [hml]; exact hl.1) rfl dX4_init_1 (Nat.le_of_ble_eq_true rfl) (Nat.le_of_ble_eq_true rfl) ?_
  refine W.eq (g2 := F0 m 4 ls []) rfl ?_
  refine lv_aload_n hx hb dX4_init_4 rfl (lv_at hl 0 rfl) ?_
  refine lv_iconst (v := 4) hx hb dX4_init_5 (by decide) ?_
  refine w_newi hx hb (hts _ acX4_init_int) hK hP hD hS hA rfl 4 rfl (by omega) (Nat.le_of_ble_eq_true rfl) (Nat.le_of_ble_eq_true rfl) dX4_init_6 (fun q1 H hP hD hS => ?_)
  have hP : va_P D vwCl (([(h0, .inr (4, [.int 0, .null, .int 0, .int 0, .null, .null, .null])), (q1, .inl (cI, 4, .inl (fun _ => 0)))] : va_W)) H := hP
  have hD : va_D A0 (([(h0, .inr (4, [.int 0, .null, .int 0, .int 0, .null, .null, .null])), (q1, .inl (cI, 4, .inl (fun _ => 0)))] : va_W)) := hD
  refine w_putJ (C := RX4) (ws' := ([(h0, .inr (4, [.int 0, .ref q1, .int 0, .int 0, .null, .null, .null])), (q1, .inl (cI, 4, .inl (fun _ => 0)))] : va_W)) hx hb hts iX4_init_X4 tyX4_ok nmX4 hown hK hP hD hS (Jf_set 0 rfl rfl) rfl 1 (by decide) fX4_init_7 rfl rfl rfl rfl (Nat.le_of_ble_eq_true rfl) rfl dX4_init_8 (fun H locs hP hD hS => ?_)
  refine lv_aload_n hx hb dX4_init_11 rfl (lv_at hl 0 rfl) ?_
  refine lv_bipush (v := 7) hx hb dX4_init_12 (by decide) ?_
  refine w_newi hx hb (hts _ acX4_init_int) hK hP hD hS hA rfl 7 rfl (by omega) (Nat.le_of_ble_eq_true rfl) (Nat.le_of_ble_eq_true rfl) dX4_init_14 (fun q2 H hP hD hS => ?_)
  have hP : va_P D vwCl (([(h0, .inr (4, [.int 0, .ref q1, .int 0, .int 0, .null, .null, .null])), (q1, .inl (cI, 4, .inl (fun _ => 0))), (q2, .inl (cI, 7, .inl (fun _ => 0)))] : va_W)) H := hP
  have hD : va_D A0 (([(h0, .inr (4, [.int 0, .ref q1, .int 0, .int 0, .null, .null, .null])), (q1, .inl (cI, 4, .inl (fun _ => 0))), (q2, .inl (cI, 7, .inl (fun _ => 0)))] : va_W)) := hD
  refine lv_dup hx hb dX4_init_16 rfl ?_
  refine lv_iconst (v := 0) hx hb dX4_init_17 (by decide) ?_
  refine lv_bipush (v := 20) hx hb dX4_init_18 (by decide) ?_
  refine w_istJ (ws' := ([(h0, .inr (4, [.int 0, .ref q1, .int 0, .int 0, .null, .null, .null])), (q1, .inl (cI, 4, .inl (fun _ => 0))), (q2, .inl (cI, 7, .inl (upd (fun _ => 0) 0 20)))] : va_W)) hx hb hK hP hD hS 0 (Jf_set 2 rfl rfl) rfl rfl (by decide) (by decide) dX4_init_20 (fun H locs hP hD hS => ?_)
  refine lv_dup hx hb dX4_init_21 rfl ?_
  refine lv_iconst (v := 1) hx hb dX4_init_22 (by decide) ?_
  refine lv_bipush (v := 20) hx hb dX4_init_23 (by decide) ?_
  refine w_istJ (ws' := ([(h0, .inr (4, [.int 0, .ref q1, .int 0, .int 0, .null, .null, .null])), (q1, .inl (cI, 4, .inl (fun _ => 0))), (q2, .inl (cI, 7, .inl (upd (upd (fun _ => 0) 0 20) 1 20)))] : va_W)) hx hb hK hP hD hS 1 (Jf_set 2 rfl rfl) rfl rfl (by decide) (by decide) dX4_init_25 (fun H locs hP hD hS => ?_)
  refine lv_dup hx hb dX4_init_26 rfl ?_
  refine lv_iconst (v := 2) hx hb dX4_init_27 (by decide) ?_
  refine lv_bipush (v := 20) hx hb dX4_init_28 (by decide) ?_
  refine w_istJ (ws' := ([(h0, .inr (4, [.int 0, .ref q1, .int 0, .int 0, .null, .null, .null])), (q1, .inl (cI, 4, .inl (fun _ => 0))), (q2, .inl (cI, 7, .inl (upd (upd (upd (fun _ => 0) 0 20) 1 20) 2 20)))] : va_W)) hx hb hK hP hD hS 2 (Jf_set 2 rfl rfl) rfl rfl (by decide) (by decide) dX4_init_30 (fun H locs hP hD hS => ?_)
  refine lv_dup hx hb dX4_init_31 rfl ?_
  refine lv_iconst (v := 3) hx hb dX4_init_32 (by decide) ?_
  refine lv_bipush (v := 20) hx hb dX4_init_33 (by decide) ?_
  refine w_istJ (ws' := ([(h0, .inr (4, [.int 0, .ref q1, .int 0, .int 0, .null, .null, .null])), (q1, .inl (cI, 4, .inl (fun _ => 0))), (q2, .inl (cI, 7, .inl (upd (upd (upd (upd (fun _ => 0) 0 20) 1 20) 2 20) 3 20)))] : va_W)) hx hb hK hP hD hS 3 (Jf_set 2 rfl rfl) rfl rfl (by decide) (by decide) dX4_init_35 (fun H locs hP hD hS => ?_)
  refine lv_dup hx hb dX4_init_36 rfl ?_
  refine lv_iconst (v := 4) hx hb dX4_init_37 (by decide) ?_
  refine lv_bipush (v := 20) hx hb dX4_init_38 (by decide) ?_
  refine w_istJ (ws' := ([(h0, .inr (4, [.int 0, .ref q1, .int 0, .int 0, .null, .null, .null])), (q1, .inl (cI, 4, .inl (fun _ => 0))), (q2, .inl (cI, 7, .inl (upd (upd (upd (upd (upd (fun _ => 0) 0 20) 1 20) 2 20) 3 20) 4 20)))] : va_W)) hx hb hK hP hD hS 4 (Jf_set 2 rfl rfl) rfl rfl (by decide) (by decide) dX4_init_40 (fun H locs hP hD hS => ?_)
  refine lv_dup hx hb dX4_init_41 rfl ?_
  refine lv_iconst (v := 5) hx hb dX4_init_42 (by decide) ?_
  refine lv_bipush (v := 20) hx hb dX4_init_43 (by decide) ?_
  refine w_istJ (ws' := ([(h0, .inr (4, [.int 0, .ref q1, .int 0, .int 0, .null, .null, .null])), (q1, .inl (cI, 4, .inl (fun _ => 0))), (q2, .inl (cI, 7, .inl (upd (upd (upd (upd (upd (upd (fun _ => 0) 0 20) 1 20) 2 20) 3 20) 4 20) 5 20)))] : va_W)) hx hb hK hP hD hS 5 (Jf_set 2 rfl rfl) rfl rfl (by decide) (by decide) dX4_init_45 (fun H locs hP hD hS => ?_)
  refine lv_dup hx hb dX4_init_46 rfl ?_
  refine lv_bipush (v := 6) hx hb dX4_init_47 (by decide) ?_
  refine lv_bipush (v := 20) hx hb dX4_init_49 (by decide) ?_
  refine w_istJ (ws' := ([(h0, .inr (4, [.int 0, .ref q1, .int 0, .int 0, .null, .null, .null])), (q1, .inl (cI, 4, .inl (fun _ => 0))), (q2, .inl (cI, 7, .inl (upd (upd (upd (upd (upd (upd (upd (fun _ => 0) 0 20) 1 20) 2 20) 3 20) 4 20) 5 20) 6 20)))] : va_W)) hx hb hK hP hD hS 6 (Jf_set 2 rfl rfl) rfl rfl (by decide) (by decide) dX4_init_51 (fun H locs hP hD hS => ?_)
  refine w_putJ (C := RX4) (ws' := ([(h0, .inr (4, [.int 0, .ref q1, .int 0, .int 0, .ref q2, .null, .null])), (q1, .inl (cI, 4, .inl (fun _ => 0))), (q2, .inl (cI, 7, .inl (upd (upd (upd (upd (upd (upd (upd (fun _ => 0) 0 20) 1 20) 2 20) 3 20) 4 20) 5 20) 6 20)))] : va_W)) hx hb hts iX4_init_X4 tyX4_ok nmX4 hown hK hP hD hS (Jf_set 0 rfl rfl) rfl 4 (by decide) fX4_init_13 rfl rfl rfl rfl (Nat.le_of_ble_eq_true rfl) rfl dX4_init_52 (fun H locs hP hD hS => ?_)
  refine lv_aload_n hx hb dX4_init_55 rfl (lv_at hl 0 rfl) ?_
  refine lv_iconst (v := 0) hx hb dX4_init_56 (by decide) ?_
  refine w_newA hx hb hown (hts _ clX4_init_16) hAA hK hP hD hS hA rfl (n := 0) rfl (by omega) (Nat.le_of_ble_eq_true rfl) (Nat.le_of_ble_eq_true rfl) dX4_init_57 (fun q3 H hP hD hS => ?_)
  have hP : va_P D vwCl (([(h0, .inr (4, [.int 0, .ref q1, .int 0, .int 0, .ref q2, .null, .null])), (q1, .inl (cI, 4, .inl (fun _ => 0))), (q2, .inl (cI, 7, .inl (upd (upd (upd (upd (upd (upd (upd (fun _ => 0) 0 20) 1 20) 2 20) 3 20) 4 20) 5 20) 6 20))), (q3, .inl (cL, 0, .inr (.inr (.inr (.inr (fun _ => none))))))] : va_W)) H := hP
  have hD : va_D A0 (([(h0, .inr (4, [.int 0, .ref q1, .int 0, .int 0, .ref q2, .null, .null])), (q1, .inl (cI, 4, .inl (fun _ => 0))), (q2, .inl (cI, 7, .inl (upd (upd (upd (upd (upd (upd (upd (fun _ => 0) 0 20) 1 20) 2 20) 3 20) 4 20) 5 20) 6 20))), (q3, .inl (cL, 0, .inr (.inr (.inr (.inr (fun _ => none))))))] : va_W)) := hD
  refine w_putJ (C := RX4) (ws' := ([(h0, .inr (4, [.int 0, .ref q1, .int 0, .int 0, .ref q2, .ref q3, .null])), (q1, .inl (cI, 4, .inl (fun _ => 0))), (q2, .inl (cI, 7, .inl (upd (upd (upd (upd (upd (upd (upd (fun _ => 0) 0 20) 1 20) 2 20) 3 20) 4 20) 5 20) 6 20))), (q3, .inl (cL, 0, .inr (.inr (.inr (.inr (fun _ => none))))))] : va_W)) hx hb hts iX4_init_X4 tyX4_ok nmX4 hown hK hP hD hS (Jf_set 0 rfl rfl) rfl 5 (by decide) fX4_init_17 rfl rfl rfl rfl (Nat.le_of_ble_eq_true rfl) rfl dX4_init_60 (fun H locs hP hD hS => ?_)
  refine lv_aload_n hx hb dX4_init_63 rfl (lv_at hl 0 rfl) ?_
  refine lv_iconst (v := 0) hx hb dX4_init_64 (by decide) ?_
  refine w_newA hx hb hown (hts _ clX4_init_16) hAA hK hP hD hS hA rfl (n := 0) rfl (by omega) (Nat.le_of_ble_eq_true rfl) (Nat.le_of_ble_eq_true rfl) dX4_init_65 (fun q4 H hP hD hS => ?_)
  have hP : va_P D vwCl (([(h0, .inr (4, [.int 0, .ref q1, .int 0, .int 0, .ref q2, .ref q3, .null])), (q1, .inl (cI, 4, .inl (fun _ => 0))), (q2, .inl (cI, 7, .inl (upd (upd (upd (upd (upd (upd (upd (fun _ => 0) 0 20) 1 20) 2 20) 3 20) 4 20) 5 20) 6 20))), (q3, .inl (cL, 0, .inr (.inr (.inr (.inr (fun _ => none)))))), (q4, .inl (cL, 0, .inr (.inr (.inr (.inr (fun _ => none))))))] : va_W)) H := hP
  have hD : va_D A0 (([(h0, .inr (4, [.int 0, .ref q1, .int 0, .int 0, .ref q2, .ref q3, .null])), (q1, .inl (cI, 4, .inl (fun _ => 0))), (q2, .inl (cI, 7, .inl (upd (upd (upd (upd (upd (upd (upd (fun _ => 0) 0 20) 1 20) 2 20) 3 20) 4 20) 5 20) 6 20))), (q3, .inl (cL, 0, .inr (.inr (.inr (.inr (fun _ => none)))))), (q4, .inl (cL, 0, .inr (.inr (.inr (.inr (fun _ => none))))))] : va_W)) := hD
  refine w_putJ (C := RX4) (ws' := ([(h0, .inr (4, [.int 0, .ref q1, .int 0, .int 0, .ref q2, .ref q3, .ref q4])), (q1, .inl (cI, 4, .inl (fun _ => 0))), (q2, .inl (cI, 7, .inl (upd (upd (upd (upd (upd (upd (upd (fun _ => 0) 0 20) 1 20) 2 20) 3 20) 4 20) 5 20) 6 20))), (q3, .inl (cL, 0, .inr (.inr (.inr (.inr (fun _ => none)))))), (q4, .inl (cL, 0, .inr (.inr (.inr (.inr (fun _ => none))))))] : va_W)) hx hb hts iX4_init_X4 tyX4_ok nmX4 hown hK hP hD hS (Jf_set 0 rfl rfl) rfl 6 (by decide) fX4_init_21 rfl rfl rfl rfl (Nat.le_of_ble_eq_true rfl) rfl dX4_init_68 (fun H locs hP hD hS => ?_)
  have hP := P_arr hP 1 rfl (f' := stk 0 0 0 0) (fun j _ => by simp [stk])
  have hP := P_arr hP 2 rfl (f' := fun _ => 20) (fun j hj => by rcases (show j = 0 ∨ j = 1 ∨ j = 2 ∨ j = 3 ∨ j = 4 ∨ j = 5 ∨ j = 6 by omega) with rfl | rfl | rfl | rfl | rfl | rfl | rfl <;> rfl)
  have hP := P_qarr hP 3 rfl (f' := fun _ => some 0) (fun j hj => absurd hj (Nat.not_lt_zero _))
  have hP := P_qarr hP 4 rfl (f' := fun _ => some 0) (fun j hj => absurd hj (Nat.not_lt_zero _))
  exact eX_v hx hb hr hlocks (⟨rfl, fun k => [h0, q1, q2, q3, q4].getD k 0, fun _ => 0, fun _ => 0, rfl, rfl⟩) hP (D_fst (by rfl) hD) hS dX4_init_71 (by decide) (by decide)

set_option maxHeartbeats 4000000 in
set_option maxRecDepth 100000 in
theorem mX4_more (l : Launch) (D : va_G) (cI cC cT cL : ClassId) (a w0 : Nat) (C : Nat → Nat) (Rw : va_W) (hn : w0 ≤ 6) (hR : ∀ i, i < w0 → ∃ k e, (C i, .inl (cI, k, .inl e)) ∈ Rw) : MX l yX4_more wsX4_more ({ frames := 0, cells := 2, slots := 12, locals := 0 } : Room) (E0) D (TY cI cC cT cL) [.ref a] (([(a, .inl (cL, w0, .inr (.inr (.inr (.inr (fun i => some (C i)))))))] : va_W) ++ (Rw)) (fun o w => ∃ q r : Nat, o = some (.ref q) ∧ w = [(a, .inl (cL, w0, .inr (.inr (.inr (.inr (fun i => some (C i))))))), (q, .inl (cL, w0 + 1, .inr (.inr (.inr (.inr (fun i => some (if i < w0 then C i else r))))))), (r, .inl (cI, 3, .inl (fun _ => 0)))] ++ Rw) 2 12 := by
  refine MX_of (cc := cX4_more) (maxL := 3) (ret := (some (.array (.array .int)))) (by decide +kernel) rfl (Nat.le_of_ble_eq_true rfl) ?_
  intro p e s m args below meth c A0 B hE ls hl
  obtain ⟨hx, hb, hml, hr, hown, hts, hlocks, hK, hP, hD, hA, hST, hnm⟩ := B
  have hown : s.vm.findClass RX4 = some m.cls := hown
  have hS : va_S A0 s.heap s.heap [] := va_S.rf
  have hl : lv_has ls 3 [(0, .ref a)] := hl
  have hAA : va_AOA .int s := hST.2.2.2.2.2.2.2.2.2.1
  refine lv_aload_n hx hb dX4_more_0 rfl (lv_at hl 0 rfl) ?_
  refine w_alenA hx hb hK hP (List.mem_append_left _ (List.mem_of_getElem? (i := 0) rfl)) rfl dX4_more_1 ?_
  refine lv_iconst (v := 1) hx hb dX4_more_2 (by decide) ?_
  refine lv_iadd hx hb dX4_more_3 ?_
  refine w_newA hx hb hown (hts _ clX4_more_16) hAA hK hP hD hS hA rfl (n := (w0 + 1)) (nI_succ w0).symm (by omega) (by show _ ≤ 2; omega) (by show _ ≤ 12; omega) dX4_more_4 (fun q1 H hP hD hS => ?_)
  have pm : ((([(a, .inl (cL, w0, .inr (.inr (.inr (.inr (fun i => some (C i)))))))] : va_W) ++ (Rw)) ++ ([(q1, .inl (cL, (w0 + 1), .inr (.inr (.inr (.inr (fun _ => none))))))] : va_W)).Perm (([(a, .inl (cL, w0, .inr (.inr (.inr (.inr (fun i => some (C i))))))), (q1, .inl (cL, (w0 + 1), .inr (.inr (.inr (.inr (fun _ => none))))))] : va_W) ++ (Rw)) := pm_new (([(a, .inl (cL, w0, .inr (.inr (.inr (.inr (fun i => some (C i)))))))] : va_W)) _ _
  have hP : va_P D vwCl (([(a, .inl (cL, w0, .inr (.inr (.inr (.inr (fun i => some (C i))))))), (q1, .inl (cL, (w0 + 1), .inr (.inr (.inr (.inr (fun _ => none))))))] : va_W) ++ (Rw)) H := P_pm pm hP
  have hD : va_D A0 (([(a, .inl (cL, w0, .inr (.inr (.inr (.inr (fun i => some (C i))))))), (q1, .inl (cL, (w0 + 1), .inr (.inr (.inr (.inr (fun _ => none))))))] : va_W) ++ (Rw)) := D_pm pm hD
  refine lv_astore_n (lv' := [(1, .ref q1), (0, .ref a)]) hx hb dX4_more_7 rfl hl (by decide) rfl (fun ls hl => ?_)
  refine lv_iconst (v := 0) hx hb dX4_more_8 (by decide) ?_
  refine lv_istore_n (lv' := [(2, .int 0), (1, .ref q1), (0, .ref a)]) hx hb dX4_more_9 rfl hl (by decide) rfl (fun ls hl => ?_)
  have hP := P_qarr hP 1 rfl (f' := fun i => if i < 0 then some (C i) else none) (fun j hj => by simp)
  have lp0 : ∀ (n j : Nat), j + n = w0 → ∀ (H : Heap) (locs : List Loc), va_P D vwCl (([(a, .inl (cL, w0, .inr (.inr (.inr (.inr (fun i => some (C i))))))), (q1, .inl (cL, (w0 + 1), .inr (.inr (.inr (.inr (fun i => if i < j then some (C i) else none))))))] : va_W) ++ (Rw)) H → va_D A0 (([(a, .inl (cL, w0, .inr (.inr (.inr (.inr (fun i => some (C i))))))), (q1, .inl (cL, (w0 + 1), .inr (.inr (.inr (.inr (fun i => if i < j then some (C i) else none))))))] : va_W) ++ (Rw)) → va_S A0 s.heap H locs → ∀ ls, lv_has ls 3 [(2, .int (nI j)), (1, .ref q1), (0, .ref a)] → W p l e ({ frames := 0, cells := 2, slots := 12, locals := 0 } : Room) s m args below meth c H locs 1 (w0 + 1) (QX below D (fun o w => ∃ q r : Nat, o = some (.ref q) ∧ w = [(a, .inl (cL, w0, .inr (.inr (.inr (.inr (fun i => some (C i))))))), (q, .inl (cL, w0 + 1, .inr (.inr (.inr (.inr (fun i => some (if i < w0 then C i else r))))))), (r, .inl (cI, 3, .inl (fun _ => 0)))] ++ Rw) A0 args s 2 12) (F0 m 10 ls []) := by
    intro n
    induction n with
    | zero =>
      intro j hj   H locs hP hD hS ls hl
      have hje : w0 = j := by omega
      subst hje
      refine lv_iload_n hx hb dX4_more_10 rfl (lv_at hl 0 rfl) ?_
      refine lv_aload_n hx hb dX4_more_11 rfl (lv_at hl 2 rfl) ?_
      refine w_alenA hx hb hK hP (List.mem_append_left _ (List.mem_of_getElem? (i := 0) rfl)) rfl dX4_more_12 ?_
      refine lv_icmp_ge (tgt := 28) hx hb dX4_more_13 (by decide) (fun c_13 => ?_) (fun c_13 => ?_)
      rotate_left
      · exact absurd (Int32.le_refl _) c_13
      refine lv_aload_n hx hb dX4_more_28 rfl (lv_at hl 1 rfl) ?_
      refine lv_aload_n hx hb dX4_more_29 rfl (lv_at hl 2 rfl) ?_
      refine w_alenA hx hb hK hP (List.mem_append_left _ (List.mem_of_getElem? (i := 0) rfl)) rfl dX4_more_30 ?_
      refine lv_iconst (v := 3) hx hb dX4_more_31 (by decide) ?_
      refine w_newi hx hb (hts _ acX4_more_int) hK hP hD hS hA rfl 3 rfl (by omega) (by show _ ≤ 2; omega) (by show _ ≤ 12; omega) dX4_more_32 (fun q2 H hP hD hS => ?_)
      have pm : ((([(a, .inl (cL, w0, .inr (.inr (.inr (.inr (fun i => some (C i))))))), (q1, .inl (cL, (w0 + 1), .inr (.inr (.inr (.inr (fun i => if i < w0 then some (C i) else none))))))] : va_W) ++ (Rw)) ++ ([(q2, .inl (cI, 3, .inl (fun _ => 0)))] : va_W)).Perm (([(a, .inl (cL, w0, .inr (.inr (.inr (.inr (fun i => some (C i))))))), (q1, .inl (cL, (w0 + 1), .inr (.inr (.inr (.inr (fun i => if i < w0 then some (C i) else none)))))), (q2, .inl (cI, 3, .inl (fun _ => 0)))] : va_W) ++ (Rw)) := pm_new (([(a, .inl (cL, w0, .inr (.inr (.inr (.inr (fun i => some (C i))))))), (q1, .inl (cL, (w0 + 1), .inr (.inr (.inr (.inr (fun i => if i < w0 then some (C i) else none))))))] : va_W)) _ _
      have hP : va_P D vwCl (([(a, .inl (cL, w0, .inr (.inr (.inr (.inr (fun i => some (C i))))))), (q1, .inl (cL, (w0 + 1), .inr (.inr (.inr (.inr (fun i => if i < w0 then some (C i) else none)))))), (q2, .inl (cI, 3, .inl (fun _ => 0)))] : va_W) ++ (Rw)) H := P_pm pm hP
      have hD : va_D A0 (([(a, .inl (cL, w0, .inr (.inr (.inr (.inr (fun i => some (C i))))))), (q1, .inl (cL, (w0 + 1), .inr (.inr (.inr (.inr (fun i => if i < w0 then some (C i) else none)))))), (q2, .inl (cI, 3, .inl (fun _ => 0)))] : va_W) ++ (Rw)) := D_pm pm hD
      refine w_qstA (ws' := ([(a, .inl (cL, w0, .inr (.inr (.inr (.inr (fun i => some (C i))))))), (q1, .inl (cL, (w0 + 1), .inr (.inr (.inr (.inr (va_up (fun i => if i < w0 then some (C i) else none) w0 (some q2))))))), (q2, .inl (cI, 3, .inl (fun _ => 0)))] : va_W) ++ (Rw)) hx hb hK hAA hP hD hS w0 (Jf_l _ (Jf_set 1 rfl rfl)) rfl rfl (List.mem_append_left _ (List.mem_of_getElem? (i := 2) rfl)) rfl (by omega) (by omega) dX4_more_34 (fun H locs hP hD hS => ?_)
      refine lv_aload_n hx hb dX4_more_35 rfl (lv_at hl 1 rfl) ?_
      have hP := P_qarr hP 1 rfl (f' := fun i => some (if i < w0 then C i else q2)) (fun j hj => mo_end hj)
      exact eX_a hx hb hr (Or.inr ⟨_, rfl⟩) hlocks (⟨q1, q2, rfl, rfl⟩) hP (D_fst (by rfl) hD) hS dX4_more_36 (by omega) (by omega)
    | succ n ih =>
      intro j hj   H locs hP hD hS ls hl
      refine lv_iload_n hx hb dX4_more_10 rfl (lv_at hl 0 rfl) ?_
      refine lv_aload_n hx hb dX4_more_11 rfl (lv_at hl 2 rfl) ?_
      refine w_alenA hx hb hK hP (List.mem_append_left _ (List.mem_of_getElem? (i := 0) rfl)) rfl dX4_more_12 ?_
      refine lv_icmp_ge (tgt := 28) hx hb dX4_more_13 (by decide) (fun c_13 => ?_) (fun c_13 => ?_)
      · exact absurd c_13 (nI_ge (by omega) (by omega))
      refine lv_aload_n hx hb dX4_more_16 rfl (lv_at hl 1 rfl) ?_
      refine lv_iload_n hx hb dX4_more_17 rfl (lv_at hl 0 rfl) ?_
      refine lv_aload_n hx hb dX4_more_18 rfl (lv_at hl 2 rfl) ?_
      refine lv_iload_n hx hb dX4_more_19 rfl (lv_at hl 0 rfl) ?_
      refine w_qldA hx hb hK hP (List.mem_append_left _ (List.mem_of_getElem? (i := 0) rfl)) rfl j rfl (by omega) (by omega) (v := C j) rfl dX4_more_20 ?_
      obtain ⟨k9, e9, hm9⟩ := hR j (by omega)
      refine w_qstA (ws' := ([(a, .inl (cL, w0, .inr (.inr (.inr (.inr (fun i => some (C i))))))), (q1, .inl (cL, (w0 + 1), .inr (.inr (.inr (.inr (va_up (fun i => if i < j then some (C i) else none) j (some (C j))))))))] : va_W) ++ (Rw)) hx hb hK hAA hP hD hS j (Jf_l _ (Jf_set 1 rfl rfl)) rfl rfl (List.mem_append_right _ (hm9)) rfl (by omega) (by omega) dX4_more_21 (fun H locs hP hD hS => ?_)
      refine lv_iinc (v := nI (j + 1)) (lv' := [(2, .int (nI (j + 1))), (1, .ref q1), (0, .ref a)]) hx hb dX4_more_22 hl (k := 0) rfl (nI_succ _).symm (by decide) rfl (fun ls hl => ?_)
      refine lv_goto (tgt := 10) hx hb dX4_more_25 (by decide) ?_
      rw [mo_up] at hP hD
      exact W.widen (by omega) (by omega) (ih (j + 1) (by omega) _ _ hP hD hS _ (lv_sub hl [0, 1, 2] rfl))
  exact W.widen (by omega) (by omega) (lp0 w0 0 (by omega) _ _ hP (D_fst (by rfl) hD) hS _ (lv_sub hl [0, 1, 2] rfl))

set_option maxHeartbeats 4000000 in
set_option maxRecDepth 100000 in
theorem mX4_counts (l : Launch) (D : va_G) (cI cC cT cL : ClassId) (S C T : Nat → Nat) (nc nt : Nat) (f g : Nat → Int32) (hnt : nt ≤ 6) (h : Nat) (hh : h < 2 ^ 30) (h0 : f 0 = nI h) : MX l yX4_counts wsX4_counts ({ frames := 1, cells := 1, slots := 10, locals := 40 } : Room) (E0) D (TY cI cC cT cL) [.ref (S 0)] (SM cI cL S C T nc nt f g) (fun o w => ∃ q : Nat, o = some (.ref q) ∧ w = [(q, .inl (cI, 10, .inl (cntF nt f g)))] ++ SM cI cL S C T nc nt f g) 1 10 := by
  refine MX_of (cc := cX4_counts) (maxL := 2) (ret := (some (.array .int))) (by decide +kernel) rfl (Nat.le_of_ble_eq_true rfl) ?_
  intro p e s m args below meth c A0 B hE ls hl
  obtain ⟨hx, hb, hml, hr, hown, hts, hlocks, hK, hP, hD, hA, hST, hnm⟩ := B
  have hown : s.vm.findClass RX4 = some m.cls := hown
  have hS : va_S A0 s.heap s.heap [] := va_S.rf
  have hl : lv_has ls 2 [(0, .ref (S 0))] := hl
  have hAA : va_AOA .int s := hST.2.2.2.2.2.2.2.2.2.1
  refine lv_bipush (v := 10) hx hb dX4_counts_0 (by decide) ?_
  refine w_newi hx hb (hts _ acX4_counts_int) hK hP hD hS hA rfl 10 rfl (by omega) (Nat.le_of_ble_eq_true rfl) (Nat.le_of_ble_eq_true rfl) dX4_counts_2 (fun q1 H hP hD hS => ?_)
  have pm : ((SM cI cL S C T nc nt f g) ++ ([(q1, .inl (cI, 10, .inl (fun _ => 0)))] : va_W)).Perm (([(q1, .inl (cI, 10, .inl (fun _ => 0)))] : va_W) ++ (SM cI cL S C T nc nt f g)) := List.perm_append_comm
  have hP : va_P D vwCl (([(q1, .inl (cI, 10, .inl (fun _ => 0)))] : va_W) ++ (SM cI cL S C T nc nt f g)) H := P_pm pm hP
  have hD : va_D A0 (([(q1, .inl (cI, 10, .inl (fun _ => 0)))] : va_W) ++ (SM cI cL S C T nc nt f g)) := D_pm pm hD
  refine lv_dup hx hb dX4_counts_4 rfl ?_
  refine lv_iconst (v := 0) hx hb dX4_counts_5 (by decide) ?_
  refine lv_aload_n hx hb dX4_counts_6 rfl (lv_at hl 0 rfl) ?_
  refine w_getM hx hb hts iX4_counts_X4 hown hK hP (List.mem_append_right _ (sm_b 0 rfl)) rfl 0 (by decide) fX4_counts_24 rfl rfl (v := .int (f 0)) dX4_counts_7 ?_
  refine w_istJ (ws' := ([(q1, .inl (cI, 10, .inl (upd (fun _ => 0) 0 (f 0))))] : va_W) ++ (SM cI cL S C T nc nt f g)) hx hb hK hP hD hS 0 (Jf_l _ (Jf_set 0 rfl rfl)) rfl rfl (by decide) (by decide) dX4_counts_10 (fun H locs hP hD hS => ?_)
  refine lv_dup hx hb dX4_counts_11 rfl ?_
  refine lv_iconst (v := 1) hx hb dX4_counts_12 (by decide) ?_
  refine lv_aload_n hx hb dX4_counts_13 rfl (lv_at hl 0 rfl) ?_
  refine c0_V (As := []) (rest := [.int 1, .ref q1, .ref q1]) (ws' := ([(q1, .inl (cI, 10, .inl (upd (fun _ => 0) 0 (f 0))))] : va_W) ++ (SM cI cL S C T nc nt f g)) ⟨hx, hb, hml, hown, hts⟩ (mX4_hot l D cI cC cT cL S C T nc nt f g h hh h0) (cwV 0 hts gX4_counts_X4_hot rfl rfl rfl pX4_hot ⟨Nat.le_of_ble_eq_true rfl, Nat.le_of_ble_eq_true rfl⟩) hK hP hD hS hA hST ((Jf_r _ (Jf_all _ _ sm_fst))).1 0 rfl rfl rfl rfl hl.1 rfl (Nat.le_of_ble_eq_true rfl) dX4_counts_14 ⟨Nat.le_of_ble_eq_true rfl, Nat.le_of_ble_eq_true rfl⟩ rfl (fun H locs hP hD hS => ?_)
  refine w_istJ (ws' := ([(q1, .inl (cI, 10, .inl (upd (upd (fun _ => 0) 0 (f 0)) 1 (hotOf f g))))] : va_W) ++ (SM cI cL S C T nc nt f g)) hx hb hK hP hD hS 1 (Jf_l _ (Jf_set 0 rfl rfl)) rfl rfl (by decide) (by decide) dX4_counts_17 (fun H locs hP hD hS => ?_)
  refine lv_dup hx hb dX4_counts_18 rfl ?_
  refine lv_iconst (v := 2) hx hb dX4_counts_19 (by decide) ?_
  refine lv_aload_n hx hb dX4_counts_20 rfl (lv_at hl 0 rfl) ?_
  refine w_getM hx hb hts iX4_counts_X4 hown hK hP (List.mem_append_right _ (sm_b 0 rfl)) rfl 1 (by decide) fX4_counts_7 rfl rfl (v := .ref (S 1)) dX4_counts_21 ?_
  refine lv_iconst (v := 0) hx hb dX4_counts_24 (by decide) ?_
  refine w_ildM hx hb hK hP (List.mem_append_right _ (sm_b 1 rfl)) rfl 0 rfl (by decide) (by decide) (v := f 1) rfl dX4_counts_25 ?_
  refine w_istJ (ws' := ([(q1, .inl (cI, 10, .inl (upd (upd (upd (fun _ => 0) 0 (f 0)) 1 (hotOf f g)) 2 (f 1))))] : va_W) ++ (SM cI cL S C T nc nt f g)) hx hb hK hP hD hS 2 (Jf_l _ (Jf_set 0 rfl rfl)) rfl rfl (by decide) (by decide) dX4_counts_26 (fun H locs hP hD hS => ?_)
  refine lv_dup hx hb dX4_counts_27 rfl ?_
  refine lv_iconst (v := 3) hx hb dX4_counts_28 (by decide) ?_
  refine lv_aload_n hx hb dX4_counts_29 rfl (lv_at hl 0 rfl) ?_
  refine w_getM hx hb hts iX4_counts_X4 hown hK hP (List.mem_append_right _ (sm_b 0 rfl)) rfl 1 (by decide) fX4_counts_7 rfl rfl (v := .ref (S 1)) dX4_counts_30 ?_
  refine lv_iconst (v := 1) hx hb dX4_counts_33 (by decide) ?_
  refine w_ildM hx hb hK hP (List.mem_append_right _ (sm_b 1 rfl)) rfl 1 rfl (by decide) (by decide) (v := f 2) rfl dX4_counts_34 ?_
  refine w_istJ (ws' := ([(q1, .inl (cI, 10, .inl (upd (upd (upd (upd (fun _ => 0) 0 (f 0)) 1 (hotOf f g)) 2 (f 1)) 3 (f 2))))] : va_W) ++ (SM cI cL S C T nc nt f g)) hx hb hK hP hD hS 3 (Jf_l _ (Jf_set 0 rfl rfl)) rfl rfl (by decide) (by decide) dX4_counts_35 (fun H locs hP hD hS => ?_)
  refine lv_dup hx hb dX4_counts_36 rfl ?_
  refine lv_iconst (v := 4) hx hb dX4_counts_37 (by decide) ?_
  refine lv_aload_n hx hb dX4_counts_38 rfl (lv_at hl 0 rfl) ?_
  refine w_getM hx hb hts iX4_counts_X4 hown hK hP (List.mem_append_right _ (sm_b 0 rfl)) rfl 1 (by decide) fX4_counts_7 rfl rfl (v := .ref (S 1)) dX4_counts_39 ?_
  refine lv_iconst (v := 2) hx hb dX4_counts_42 (by decide) ?_
  refine w_ildM hx hb hK hP (List.mem_append_right _ (sm_b 1 rfl)) rfl 2 rfl (by decide) (by decide) (v := f 3) rfl dX4_counts_43 ?_
  refine w_istJ (ws' := ([(q1, .inl (cI, 10, .inl (upd (upd (upd (upd (upd (fun _ => 0) 0 (f 0)) 1 (hotOf f g)) 2 (f 1)) 3 (f 2)) 4 (f 3))))] : va_W) ++ (SM cI cL S C T nc nt f g)) hx hb hK hP hD hS 4 (Jf_l _ (Jf_set 0 rfl rfl)) rfl rfl (by decide) (by decide) dX4_counts_44 (fun H locs hP hD hS => ?_)
  refine lv_dup hx hb dX4_counts_45 rfl ?_
  refine lv_iconst (v := 5) hx hb dX4_counts_46 (by decide) ?_
  refine lv_aload_n hx hb dX4_counts_47 rfl (lv_at hl 0 rfl) ?_
  refine w_getM hx hb hts iX4_counts_X4 hown hK hP (List.mem_append_right _ (sm_b 0 rfl)) rfl 1 (by decide) fX4_counts_7 rfl rfl (v := .ref (S 1)) dX4_counts_48 ?_
  refine lv_iconst (v := 3) hx hb dX4_counts_51 (by decide) ?_
  refine w_ildM hx hb hK hP (List.mem_append_right _ (sm_b 1 rfl)) rfl 3 rfl (by decide) (by decide) (v := f 4) rfl dX4_counts_52 ?_
  refine w_istJ (ws' := ([(q1, .inl (cI, 10, .inl (upd (upd (upd (upd (upd (upd (fun _ => 0) 0 (f 0)) 1 (hotOf f g)) 2 (f 1)) 3 (f 2)) 4 (f 3)) 5 (f 4))))] : va_W) ++ (SM cI cL S C T nc nt f g)) hx hb hK hP hD hS 5 (Jf_l _ (Jf_set 0 rfl rfl)) rfl rfl (by decide) (by decide) dX4_counts_53 (fun H locs hP hD hS => ?_)
  refine lv_dup hx hb dX4_counts_54 rfl ?_
  refine lv_bipush (v := 6) hx hb dX4_counts_55 (by decide) ?_
  refine lv_aload_n hx hb dX4_counts_57 rfl (lv_at hl 0 rfl) ?_
  refine w_getM hx hb hts iX4_counts_X4 hown hK hP (List.mem_append_right _ (sm_b 0 rfl)) rfl 2 (by decide) fX4_counts_32 rfl rfl (v := .int (f 5)) dX4_counts_58 ?_
  refine w_istJ (ws' := ([(q1, .inl (cI, 10, .inl (upd (upd (upd (upd (upd (upd (upd (fun _ => 0) 0 (f 0)) 1 (hotOf f g)) 2 (f 1)) 3 (f 2)) 4 (f 3)) 5 (f 4)) 6 (f 5))))] : va_W) ++ (SM cI cL S C T nc nt f g)) hx hb hK hP hD hS 6 (Jf_l _ (Jf_set 0 rfl rfl)) rfl rfl (by decide) (by decide) dX4_counts_61 (fun H locs hP hD hS => ?_)
  refine lv_dup hx hb dX4_counts_62 rfl ?_
  refine lv_bipush (v := 7) hx hb dX4_counts_63 (by decide) ?_
  refine lv_aload_n hx hb dX4_counts_65 rfl (lv_at hl 0 rfl) ?_
  refine lv_iconst (v := 0) hx hb dX4_counts_66 (by decide) ?_
  refine c0_V (As := [.int 0]) (rest := [.int 7, .ref q1, .ref q1]) (ws' := ([(q1, .inl (cI, 10, .inl (upd (upd (upd (upd (upd (upd (upd (fun _ => 0) 0 (f 0)) 1 (hotOf f g)) 2 (f 1)) 3 (f 2)) 4 (f 3)) 5 (f 4)) 6 (f 5))))] : va_W) ++ (SM cI cL S C T nc nt f g)) ⟨hx, hb, hml, hown, hts⟩ (mX4_sum_0 l D cI cC cT cL S C T nc nt f g hnt) (cwV 1 hts gX4_counts_X4_sum rfl rfl rfl pX4_sum ⟨Nat.le_of_ble_eq_true rfl, Nat.le_of_ble_eq_true rfl⟩) hK hP hD hS hA hST ((Jf_r _ (Jf_all _ _ sm_fst))).1 0 rfl rfl rfl rfl hl.1 rfl (Nat.le_of_ble_eq_true rfl) dX4_counts_67 ⟨Nat.le_of_ble_eq_true rfl, Nat.le_of_ble_eq_true rfl⟩ rfl (fun H locs hP hD hS => ?_)
  refine w_istJ (ws' := ([(q1, .inl (cI, 10, .inl (upd (upd (upd (upd (upd (upd (upd (upd (fun _ => 0) 0 (f 0)) 1 (hotOf f g)) 2 (f 1)) 3 (f 2)) 4 (f 3)) 5 (f 4)) 6 (f 5)) 7 (sumS f nt))))] : va_W) ++ (SM cI cL S C T nc nt f g)) hx hb hK hP hD hS 7 (Jf_l _ (Jf_set 0 rfl rfl)) rfl rfl (by decide) (by decide) dX4_counts_70 (fun H locs hP hD hS => ?_)
  refine lv_dup hx hb dX4_counts_71 rfl ?_
  refine lv_bipush (v := 8) hx hb dX4_counts_72 (by decide) ?_
  refine lv_aload_n hx hb dX4_counts_74 rfl (lv_at hl 0 rfl) ?_
  refine lv_iconst (v := 2) hx hb dX4_counts_75 (by decide) ?_
  refine c0_V (As := [.int 2]) (rest := [.int 8, .ref q1, .ref q1]) (ws' := ([(q1, .inl (cI, 10, .inl (upd (upd (upd (upd (upd (upd (upd (upd (fun _ => 0) 0 (f 0)) 1 (hotOf f g)) 2 (f 1)) 3 (f 2)) 4 (f 3)) 5 (f 4)) 6 (f 5)) 7 (sumS f nt))))] : va_W) ++ (SM cI cL S C T nc nt f g)) ⟨hx, hb, hml, hown, hts⟩ (mX4_sum_2 l D cI cC cT cL S C T nc nt f g hnt) (cwV 1 hts gX4_counts_X4_sum rfl rfl rfl pX4_sum ⟨Nat.le_of_ble_eq_true rfl, Nat.le_of_ble_eq_true rfl⟩) hK hP hD hS hA hST ((Jf_r _ (Jf_all _ _ sm_fst))).1 0 rfl rfl rfl rfl hl.1 rfl (Nat.le_of_ble_eq_true rfl) dX4_counts_76 ⟨Nat.le_of_ble_eq_true rfl, Nat.le_of_ble_eq_true rfl⟩ rfl (fun H locs hP hD hS => ?_)
  refine w_istJ (ws' := ([(q1, .inl (cI, 10, .inl (upd (upd (upd (upd (upd (upd (upd (upd (upd (fun _ => 0) 0 (f 0)) 1 (hotOf f g)) 2 (f 1)) 3 (f 2)) 4 (f 3)) 5 (f 4)) 6 (f 5)) 7 (sumS f nt)) 8 (sumD f nt))))] : va_W) ++ (SM cI cL S C T nc nt f g)) hx hb hK hP hD hS 8 (Jf_l _ (Jf_set 0 rfl rfl)) rfl rfl (by decide) (by decide) dX4_counts_79 (fun H locs hP hD hS => ?_)
  refine lv_dup hx hb dX4_counts_80 rfl ?_
  refine lv_bipush (v := 9) hx hb dX4_counts_81 (by decide) ?_
  refine lv_aload_n hx hb dX4_counts_83 rfl (lv_at hl 0 rfl) ?_
  refine w_getM hx hb hts iX4_counts_X4 hown hK hP (List.mem_append_right _ (sm_b 0 rfl)) rfl 3 (by decide) fX4_counts_38 rfl rfl (v := .int (f 6)) dX4_counts_84 ?_
  refine w_istJ (ws' := ([(q1, .inl (cI, 10, .inl (upd (upd (upd (upd (upd (upd (upd (upd (upd (upd (fun _ => 0) 0 (f 0)) 1 (hotOf f g)) 2 (f 1)) 3 (f 2)) 4 (f 3)) 5 (f 4)) 6 (f 5)) 7 (sumS f nt)) 8 (sumD f nt)) 9 (f 6))))] : va_W) ++ (SM cI cL S C T nc nt f g)) hx hb hK hP hD hS 9 (Jf_l _ (Jf_set 0 rfl rfl)) rfl rfl (by decide) (by decide) dX4_counts_87 (fun H locs hP hD hS => ?_)
  refine lv_astore_n (lv' := [(1, .ref q1), (0, .ref (S 0))]) hx hb dX4_counts_88 rfl hl (by decide) rfl (fun ls hl => ?_)
  refine lv_aload_n hx hb dX4_counts_89 rfl (lv_at hl 0 rfl) ?_
  have hP := P_arr hP 0 rfl (f' := cntF nt f g) (fun j hj => by rcases (show j = 0 ∨ j = 1 ∨ j = 2 ∨ j = 3 ∨ j = 4 ∨ j = 5 ∨ j = 6 ∨ j = 7 ∨ j = 8 ∨ j = 9 by omega) with rfl | rfl | rfl | rfl | rfl | rfl | rfl | rfl | rfl | rfl <;> rfl)
  exact eX_a hx hb hr (Or.inr ⟨_, rfl⟩) hlocks (⟨q1, rfl, rfl⟩) hP (D_fst (by rfl) hD) hS dX4_counts_90 (by decide) (by decide)

set_option maxHeartbeats 4000000 in
set_option maxRecDepth 100000 in
theorem mX4_isSame (l : Launch) (D : va_G) (cI cC cT cL : ClassId) (hl0 : l.stackTraces = false) (x b0 : Nat) (A : Nat → Nat) (S C T : Nat → Nat) (nc nt : Nat) (f g : Nat → Int32) (hnc : nc ≤ 4) (hnt : nt ≤ 6) (hI : Inv f) (h : Nat) (hh9 : h < 2 ^ 29) (h0 : f 0 = nI h) : M0 l yX4_isSame wsX4_isSame ({ frames := 8, cells := 130, slots := 800, locals := 160 } : Room) D (TY cI cC cT cL) [.ref (S 0), .ref x] (YW cI cC cT x A b0 nc nt f g ++ (SM cI cL S C T nc nt f g)) (some (.int 1)) (YW cI cC cT x A b0 nc nt f g ++ (SM cI cL S C T nc nt f g)) 130 800 := by
  refine M0_of (cc := cX4_isSame) (maxL := 4) (ret := (some .boolean)) (by decide +kernel) rfl (Nat.le_of_ble_eq_true rfl) ?_
  intro p e s m args below meth c A0 B ls hl
  obtain ⟨hx, hb, hml, hr, hown, hts, hlocks, hK, hP, hD, hA, hST, hnm⟩ := B
  have hown : s.vm.findClass RX4 = some m.cls := hown
  have hS : va_S A0 s.heap s.heap [] := va_S.rf
  have hl : lv_has ls 4 [(0, .ref (S 0)), (1, .ref x)] := hl
  have hh : h < 2 ^ 30 := by omega
  refine lv_iconst (v := 0) hx hb dX4_isSame_0 (by decide) ?_
  refine lv_istore_n (lv' := [(2, .int 0), (0, .ref (S 0)), (1, .ref x)]) hx hb dX4_isSame_1 rfl hl (by decide) rfl (fun ls hl => ?_)
  have lp0 : ∀ (n j : Nat), j + n = nc → ∀ (H : Heap) (locs : List Loc), va_P D vwCl (YW cI cC cT x A b0 nc nt f g ++ (SM cI cL S C T nc nt f g)) H → va_D A0 (YW cI cC cT x A b0 nc nt f g ++ (SM cI cL S C T nc nt f g)) → va_S A0 s.heap H locs → ∀ ls, lv_has ls 4 [(2, .int (nI j)), (1, .ref x), (0, .ref (S 0))] → W p l e ({ frames := 8, cells := 130, slots := 800, locals := 160 } : Room) s m args below meth c H locs (10 * j) (60 * j) (Q0 below D (some (.int 1)) (YW cI cC cT x A b0 nc nt f g ++ (SM cI cL S C T nc nt f g)) A0 args s 130 800) (F0 m 2 ls []) := by
    intro n
    induction n with
    | zero =>
      intro j hj   H locs hP hD hS ls hl
      have hje : nc = j := by omega
      subst hje
      refine lv_iload_n hx hb dX4_isSame_2 rfl (lv_at hl 0 rfl) ?_
      refine lv_aload_n hx hb dX4_isSame_3 rfl (lv_at hl 2 rfl) ?_
      refine w_getM hx hb hts iX4_isSame_X4 hown hK hP (List.mem_append_right _ (sm_b 0 rfl)) rfl 5 (by decide) fX4_isSame_17 rfl rfl (v := .ref (S 3)) dX4_isSame_4 ?_
      refine w_alenA hx hb hK hP (List.mem_append_right _ (sm_b 3 rfl)) rfl dX4_isSame_7 ?_
      refine lv_icmp_ge (tgt := 49) hx hb dX4_isSame_8 (by decide) (fun c_8 => ?_) (fun c_8 => ?_)
      rotate_left
      · exact absurd (Int32.le_refl _) c_8
      refine lv_iconst (v := 0) hx hb dX4_isSame_49 (by decide) ?_
      refine lv_istore_n (lv' := [(2, .int 0), (1, .ref x), (0, .ref (S 0))]) hx hb dX4_isSame_50 rfl hl (by decide) rfl (fun ls hl => ?_)
      have lp1 : ∀ (n j : Nat), j + n = nt → ∀ (H : Heap) (locs : List Loc), va_P D vwCl (YW cI cC cT x A b0 nc nt f g ++ (SM cI cL S C T nc nt f g)) H → va_D A0 (YW cI cC cT x A b0 nc nt f g ++ (SM cI cL S C T nc nt f g)) → va_S A0 s.heap H locs → ∀ ls, lv_has ls 4 [(2, .int (nI j)), (1, .ref x), (0, .ref (S 0))] → W p l e ({ frames := 8, cells := 130, slots := 800, locals := 160 } : Room) s m args below meth c H locs (40 + 10 * j) (240 + 60 * j) (Q0 below D (some (.int 1)) (YW cI cC cT x A b0 nc nt f g ++ (SM cI cL S C T nc nt f g)) A0 args s 130 800) (F0 m 51 ls []) := by
        intro n
        induction n with
        | zero =>
          intro j hj   H locs hP hD hS ls hl
          have hje : nt = j := by omega
          subst hje
          refine lv_iload_n hx hb dX4_isSame_51 rfl (lv_at hl 0 rfl) ?_
          refine lv_aload_n hx hb dX4_isSame_52 rfl (lv_at hl 2 rfl) ?_
          refine w_getM hx hb hts iX4_isSame_X4 hown hK hP (List.mem_append_right _ (sm_b 0 rfl)) rfl 6 (by decide) fX4_isSame_21 rfl rfl (v := .ref (S 4)) dX4_isSame_53 ?_
          refine w_alenA hx hb hK hP (List.mem_append_right _ (sm_b 4 rfl)) rfl dX4_isSame_56 ?_
          refine lv_icmp_ge (tgt := 98) hx hb dX4_isSame_57 (by decide) (fun c_57 => ?_) (fun c_57 => ?_)
          rotate_left
          · exact absurd (Int32.le_refl _) c_57
          refine lv_aload_n hx hb dX4_isSame_98 rfl (lv_at hl 2 rfl) ?_
          refine cX_V (As := []) (rest := []) (L := YW cI cC cT x A b0 nc nt f g) ⟨hx, hb, hml, hown, hts⟩ (mX4_counts l D cI cC cT cL S C T nc nt f g hnt h hh h0) (fun _ => px_blind0) (cwV 0 hts gX4_isSame_X4_counts rfl rfl rfl pX4_counts ⟨by decide, by decide⟩) hK (List.Perm.refl _) hP hD hS hA hST (fun _ _ _ => trivial) (sm_b 0 rfl) rfl rfl rfl hl.1 rfl (Nat.le_of_ble_eq_true rfl) dX4_isSame_99 ⟨(by show _ ≤ 130; omega), (by show _ ≤ 800; omega)⟩ (fun o9 w9 hB H locs hP hD hS => ?_)
          obtain ⟨q9, rfl, rfl⟩ := hB
          refine W.eq (g2 := F0 m 102 ls [.ref q9]) rfl ?_
          have hP : va_P D vwCl (([(q9, .inl (cI, 10, .inl (cntF nt f g)))] : va_W) ++ (YW cI cC cT x A b0 nc nt f g ++ (SM cI cL S C T nc nt f g))) H := (P_pm (pm_mid _ _ _) hP)
          have hD : va_D A0 (([(q9, .inl (cI, 10, .inl (cntF nt f g)))] : va_W) ++ (YW cI cC cT x A b0 nc nt f g ++ (SM cI cL S C T nc nt f g))) := (D_pm (pm_mid _ _ _) hD)
          refine lv_astore_n (lv' := [(2, .ref q9), (1, .ref x), (0, .ref (S 0))]) hx hb dX4_isSame_102 rfl hl (by decide) rfl (fun ls hl => ?_)
          refine lv_iconst (v := 0) hx hb dX4_isSame_103 (by decide) ?_
          refine lv_istore_n (lv' := [(3, .int 0), (2, .ref q9), (1, .ref x), (0, .ref (S 0))]) hx hb dX4_isSame_104 rfl hl (by decide) rfl (fun ls hl => ?_)
          have lp2 : ∀ (n j : Nat), j + n = 10 → ∀ (H : Heap) (locs : List Loc), va_P D vwCl (([(q9, .inl (cI, 10, .inl (cntF nt f g)))] : va_W) ++ (YW cI cC cT x A b0 nc nt f g ++ (SM cI cL S C T nc nt f g))) H → va_D A0 (([(q9, .inl (cI, 10, .inl (cntF nt f g)))] : va_W) ++ (YW cI cC cT x A b0 nc nt f g ++ (SM cI cL S C T nc nt f g))) → va_S A0 s.heap H locs → ∀ ls, lv_has ls 4 [(3, .int (nI j)), (2, .ref q9), (1, .ref x), (0, .ref (S 0))] → W p l e ({ frames := 8, cells := 130, slots := 800, locals := 160 } : Room) s m args below meth c H locs (110 + j) (650 + 6 * j) (Q0 below D (some (.int 1)) (YW cI cC cT x A b0 nc nt f g ++ (SM cI cL S C T nc nt f g)) A0 args s 130 800) (F0 m 105 ls []) := by
            intro n
            induction n with
            | zero =>
              intro j hj   H locs hP hD hS ls hl
              have hje : 10 = j := by omega
              subst hje
              refine lv_iload_n hx hb dX4_isSame_105 rfl (lv_at hl 0 rfl) ?_
              refine lv_bipush (v := 10) hx hb dX4_isSame_106 (by decide) ?_
              refine lv_icmp_ge (tgt := 130) hx hb dX4_isSame_108 (by decide) (fun c_108 => ?_) (fun c_108 => ?_)
              rotate_left
              · exact absurd (by decide) c_108
              refine lv_aload_n hx hb dX4_isSame_130 rfl (lv_at hl 3 rfl) ?_
              refine lv_iconst (v := 2) hx hb dX4_isSame_131 (by decide) ?_
              refine c0_V (As := [.int 2]) (rest := []) (ws' := ([(q9, .inl (cI, 10, .inl (cntF nt f g)))] : va_W) ++ (YW cI cC cT x A b0 nc nt f g ++ (SM cI cL S C T nc nt f g))) ⟨hx, hb, hml, hown, hts⟩ (mX4_sum_2 l D cI cC cT cL S C T nc nt f g hnt) (cwV 1 hts gX4_isSame_X4_sum rfl rfl rfl pX4_sum ⟨by decide, by decide⟩) hK hP hD hS hA hST ((Jf_r _ (Jf_r _ (Jf_all _ _ sm_fst)))).1 0 rfl rfl rfl rfl hl.1 rfl (Nat.le_of_ble_eq_true rfl) dX4_isSame_132 ⟨(by show _ ≤ 130; omega), (by show _ ≤ 800; omega)⟩ rfl (fun H locs hP hD hS => ?_)
              refine lv_aload_n hx hb dX4_isSame_135 rfl (lv_at hl 3 rfl) ?_
              refine w_getM hx hb hts iX4_isSame_X4 hown hK hP (List.mem_append_right _ (List.mem_append_right _ (sm_b 0 rfl))) rfl 3 (by decide) fX4_isSame_38 rfl rfl (v := .int (f 6)) dX4_isSame_136 ?_
              refine lv_iadd hx hb dX4_isSame_139 ?_
              refine lv_istore_n (lv' := [(3, .int ((sumD f nt) + (f 6))), (2, .ref q9), (1, .ref x), (0, .ref (S 0))]) hx hb dX4_isSame_140 rfl hl (by decide) rfl (fun ls hl => ?_)
              refine lv_aload_n hx hb dX4_isSame_141 rfl (lv_at hl 2 rfl) ?_
              refine c0_V (As := []) (rest := []) (ws' := ([(q9, .inl (cI, 10, .inl (cntF nt f g)))] : va_W) ++ (YW cI cC cT x A b0 nc nt f g ++ (SM cI cL S C T nc nt f g))) ⟨hx, hb, hml, hown, hts⟩ (mX3_next l D cI cC cT cL x b0 A nc nt f g hnt hI) (cwV 0 hts gX4_isSame_X3_next rfl rfl rfl pX3_next ⟨by decide, by decide⟩) hK hP hD hS hA hST ((Jf_r _ (Jf_l _ (Jf_all _ _ yw_fst)))).1 0 rfl rfl rfl rfl hl.1 rfl (Nat.le_of_ble_eq_true rfl) dX4_isSame_142 ⟨(by show _ ≤ 130; omega), (by show _ ≤ 800; omega)⟩ rfl (fun H locs hP hD hS => ?_)
              refine lv_aload_n hx hb dX4_isSame_145 rfl (lv_at hl 3 rfl) ?_
              refine c0_V (As := []) (rest := [.int (nxt f nt)]) (ws' := ([(q9, .inl (cI, 10, .inl (cntF nt f g)))] : va_W) ++ (YW cI cC cT x A b0 nc nt f g ++ (SM cI cL S C T nc nt f g))) ⟨hx, hb, hml, hown, hts⟩ (mX4_next l D cI cC cT cL S C T nc nt f g hnt) (cwV 0 hts gX4_isSame_X4_next rfl rfl rfl pX4_next ⟨by decide, by decide⟩) hK hP hD hS hA hST ((Jf_r _ (Jf_r _ (Jf_all _ _ sm_fst)))).1 0 rfl rfl rfl rfl hl.1 rfl (Nat.le_of_ble_eq_true rfl) dX4_isSame_146 ⟨(by show _ ≤ 130; omega), (by show _ ≤ 800; omega)⟩ rfl (fun H locs hP hD hS => ?_)
              refine lv_icmp_ne (tgt := 181) hx hb dX4_isSame_149 (by decide) (fun c_149 => ?_) (fun c_149 => ?_)
              · exact absurd rfl c_149
              refine lv_aload_n hx hb dX4_isSame_152 rfl (lv_at hl 2 rfl) ?_
              refine c0_V (As := []) (rest := []) (ws' := ([(q9, .inl (cI, 10, .inl (cntF nt f g)))] : va_W) ++ (YW cI cC cT x A b0 nc nt f g ++ (SM cI cL S C T nc nt f g))) ⟨hx, hb, hml, hown, hts⟩ (mX3_share l D cI cC cT cL x b0 A nc nt f g hnt) (cwV 0 hts gX4_isSame_X3_share rfl rfl rfl pX3_share ⟨by decide, by decide⟩) hK hP hD hS hA hST ((Jf_r _ (Jf_l _ (Jf_all _ _ yw_fst)))).1 0 rfl rfl rfl rfl hl.1 rfl (Nat.le_of_ble_eq_true rfl) dX4_isSame_153 ⟨(by show _ ≤ 130; omega), (by show _ ≤ 800; omega)⟩ rfl (fun H locs hP hD hS => ?_)
              refine lv_iload_n hx hb dX4_isSame_156 rfl (lv_at hl 0 rfl) ?_
              refine lv_if_ne (tgt := 164) hx hb dX4_isSame_157 (by decide) (fun c_157 => ?_) (fun c_157 => ?_)
              ·
                refine lv_aload_n hx hb dX4_isSame_164 rfl (lv_at hl 3 rfl) ?_
                refine lv_iconst (v := 2) hx hb dX4_isSame_165 (by decide) ?_
                refine c0_V (As := [.int 2]) (rest := [.double (shareF nt f)]) (ws' := ([(q9, .inl (cI, 10, .inl (cntF nt f g)))] : va_W) ++ (YW cI cC cT x A b0 nc nt f g ++ (SM cI cL S C T nc nt f g))) ⟨hx, hb, hml, hown, hts⟩ (mX4_sum_2 l D cI cC cT cL S C T nc nt f g hnt) (cwV 1 hts gX4_isSame_X4_sum rfl rfl rfl pX4_sum ⟨by decide, by decide⟩) hK hP hD hS hA hST ((Jf_r _ (Jf_r _ (Jf_all _ _ sm_fst)))).1 0 rfl rfl rfl rfl hl.1 rfl (Nat.le_of_ble_eq_true rfl) dX4_isSame_166 ⟨(by show _ ≤ 130; omega), (by show _ ≤ 800; omega)⟩ rfl (fun H locs hP hD hS => ?_)
                refine lv_i2d hx hb dX4_isSame_169 ?_
                refine lv_iload_n hx hb dX4_isSame_170 rfl (lv_at hl 0 rfl) ?_
                refine lv_i2d hx hb dX4_isSame_171 ?_
                refine lv_ddiv hx hb dX4_isSame_172 (fq_div _ _ c_157) ?_
                refine lv_dcmp hx hb dX4_isSame_173 ?_
                refine lv_if_ne (tgt := 181) hx hb dX4_isSame_174 (by decide) (fun c_174 => ?_) (fun c_174 => ?_)
                · exact absurd (by rw [sh_1 c_157]; exact dc_self (fq_div _ _ c_157)) c_174
                refine lv_iconst (v := 1) hx hb dX4_isSame_177 (by decide) ?_
                refine lv_goto (tgt := 182) hx hb dX4_isSame_178 (by decide) ?_
                exact e0_z hx hb hr hlocks (P_cut (pm_drop _ _) hP) hS dX4_isSame_182 rfl (by omega) (by omega) (rfl)
              ·
                refine lv_dconst0 hx hb dX4_isSame_160 ?_
                refine lv_goto (tgt := 173) hx hb dX4_isSame_161 (by decide) ?_
                refine lv_dcmp hx hb dX4_isSame_173 ?_
                refine lv_if_ne (tgt := 181) hx hb dX4_isSame_174 (by decide) (fun c_174 => ?_) (fun c_174 => ?_)
                · exact absurd (by rw [sh_0 c_157]; exact dc_self sh_z) c_174
                refine lv_iconst (v := 1) hx hb dX4_isSame_177 (by decide) ?_
                refine lv_goto (tgt := 182) hx hb dX4_isSame_178 (by decide) ?_
                exact e0_z hx hb hr hlocks (P_cut (pm_drop _ _) hP) hS dX4_isSame_182 rfl (by omega) (by omega) (rfl)
            | succ n ih =>
              intro j hj   H locs hP hD hS ls hl
              refine lv_iload_n hx hb dX4_isSame_105 rfl (lv_at hl 0 rfl) ?_
              refine lv_bipush (v := 10) hx hb dX4_isSame_106 (by decide) ?_
              refine lv_icmp_ge (tgt := 130) hx hb dX4_isSame_108 (by decide) (fun c_108 => ?_) (fun c_108 => ?_)
              · exact absurd c_108 (nI_ge (b := 10) (by omega) (by decide))
              refine lv_aload_n hx hb dX4_isSame_111 rfl (lv_at hl 2 rfl) ?_
              refine lv_iload_n hx hb dX4_isSame_112 rfl (lv_at hl 0 rfl) ?_
              refine c1_V0 (xe_no (k_count (w := j) (by omega))) (As := [.int (nI j)]) (rest := []) (ws' := ([(q9, .inl (cI, 10, .inl (cntF nt f g)))] : va_W) ++ (YW cI cC cT x A b0 nc nt f g ++ (SM cI cL S C T nc nt f g))) ⟨hx, hb, hml, hown, hts⟩ (mX3_count l D cI cC cT cL hl0 x b0 A nc nt f g (nI j) hnt h (by omega) h0) (cwV 1 hts gX4_isSame_X3_count rfl rfl rfl pX3_count ⟨by decide, by decide⟩) hK hP hD hS hA hST ((Jf_r _ (Jf_l _ (Jf_all _ _ yw_fst)))).1 ((Jf_r _ (Jf_l _ (Jf_all _ _ yw_fst)))).1 0 rfl rfl rfl rfl hl.1 rfl (Nat.le_of_ble_eq_true rfl) dX4_isSame_113 ⟨(by show _ ≤ 130; omega), (by show _ ≤ 800; omega)⟩ rfl (fun H locs hP hD hS => ?_)
              rw [nI_clamp (n := j) (by omega)]
              refine lv_aload_n hx hb dX4_isSame_116 rfl (lv_at hl 1 rfl) ?_
              refine lv_iload_n hx hb dX4_isSame_117 rfl (lv_at hl 0 rfl) ?_
              refine w_ildM hx hb hK hP (List.mem_append_left _ (List.mem_of_getElem? (i := 0) rfl)) rfl j rfl (by omega) (by decide) (v := (cntF nt f g) j) rfl dX4_isSame_118 ?_
              refine lv_icmp_eq (tgt := 124) hx hb dX4_isSame_119 (by decide) (fun c_119 => ?_) (fun c_119 => ?_)
              rotate_left
              · exact absurd rfl c_119
              refine lv_iinc (v := nI (j + 1)) (lv' := [(3, .int (nI (j + 1))), (2, .ref q9), (1, .ref x), (0, .ref (S 0))]) hx hb dX4_isSame_124 hl (k := 0) rfl (nI_succ _).symm (by decide) rfl (fun ls hl => ?_)
              refine lv_goto (tgt := 105) hx hb dX4_isSame_127 (by decide) ?_
              exact W.widen (by omega) (by omega) (ih (j + 1) (by omega) _ _ hP hD hS _ (lv_sub hl [0, 1, 2, 3] rfl))
          exact W.widen (by omega) (by omega) (lp2 10 0 (by omega) _ _ hP hD hS _ (lv_sub hl [0, 1, 2, 3] rfl))
        | succ n ih =>
          intro j hj   H locs hP hD hS ls hl
          refine lv_iload_n hx hb dX4_isSame_51 rfl (lv_at hl 0 rfl) ?_
          refine lv_aload_n hx hb dX4_isSame_52 rfl (lv_at hl 2 rfl) ?_
          refine w_getM hx hb hts iX4_isSame_X4 hown hK hP (List.mem_append_right _ (sm_b 0 rfl)) rfl 6 (by decide) fX4_isSame_21 rfl rfl (v := .ref (S 4)) dX4_isSame_53 ?_
          refine w_alenA hx hb hK hP (List.mem_append_right _ (sm_b 4 rfl)) rfl dX4_isSame_56 ?_
          refine lv_icmp_ge (tgt := 98) hx hb dX4_isSame_57 (by decide) (fun c_57 => ?_) (fun c_57 => ?_)
          · exact absurd c_57 (nI_ge (by omega) (by omega))
          refine lv_iconst (v := 0) hx hb dX4_isSame_60 (by decide) ?_
          refine lv_istore_n (lv' := [(3, .int 0), (2, .int (nI j)), (1, .ref x), (0, .ref (S 0))]) hx hb dX4_isSame_61 rfl hl (by decide) rfl (fun ls hl => ?_)
          have lp3 : ∀ (n k : Nat), k + n = 3 → ∀ (H : Heap) (locs : List Loc), va_P D vwCl (YW cI cC cT x A b0 nc nt f g ++ (SM cI cL S C T nc nt f g)) H → va_D A0 (YW cI cC cT x A b0 nc nt f g ++ (SM cI cL S C T nc nt f g)) → va_S A0 s.heap H locs → ∀ ls, lv_has ls 4 [(3, .int (nI k)), (2, .int (nI j)), (1, .ref x), (0, .ref (S 0))] → W p l e ({ frames := 8, cells := 130, slots := 800, locals := 160 } : Room) s m args below meth c H locs (40 + 10 * j + 2 * k) (240 + 60 * j + 12 * k) (Q0 below D (some (.int 1)) (YW cI cC cT x A b0 nc nt f g ++ (SM cI cL S C T nc nt f g)) A0 args s 130 800) (F0 m 62 ls []) := by
            intro n
            induction n with
            | zero =>
              intro k hk   H locs hP hD hS ls hl
              have hje : 3 = k := by omega
              subst hje
              refine lv_iload_n hx hb dX4_isSame_62 rfl (lv_at hl 0 rfl) ?_
              refine lv_iconst (v := 3) hx hb dX4_isSame_63 (by decide) ?_
              refine lv_icmp_ge (tgt := 92) hx hb dX4_isSame_64 (by decide) (fun c_64 => ?_) (fun c_64 => ?_)
              rotate_left
              · exact absurd (by decide) c_64
              refine lv_iinc (v := nI (j + 1)) (lv' := [(2, .int (nI (j + 1))), (3, .int (nI 3)), (1, .ref x), (0, .ref (S 0))]) hx hb dX4_isSame_92 hl (k := 1) rfl (nI_succ _).symm (by decide) rfl (fun ls hl => ?_)
              refine lv_goto (tgt := 51) hx hb dX4_isSame_95 (by decide) ?_
              exact W.widen (by omega) (by omega) (ih (j + 1) (by omega) _ _ hP hD hS _ (lv_sub hl [0, 2, 3] rfl))
            | succ n ih =>
              intro k hk   H locs hP hD hS ls hl
              refine lv_iload_n hx hb dX4_isSame_62 rfl (lv_at hl 0 rfl) ?_
              refine lv_iconst (v := 3) hx hb dX4_isSame_63 (by decide) ?_
              refine lv_icmp_ge (tgt := 92) hx hb dX4_isSame_64 (by decide) (fun c_64 => ?_) (fun c_64 => ?_)
              · exact absurd c_64 (nI_ge (b := 3) (by omega) (by decide))
              refine lv_aload_n hx hb dX4_isSame_67 rfl (lv_at hl 2 rfl) ?_
              refine lv_iload_n hx hb dX4_isSame_68 rfl (lv_at hl 1 rfl) ?_
              refine lv_iload_n hx hb dX4_isSame_69 rfl (lv_at hl 0 rfl) ?_
              refine c1_V0 (xe_no (k_told (n := nt) (i := j) (w := k) (by omega) (by omega) (by omega))) (As := [.int (nI j), .int (nI k)]) (rest := []) (ws' := YW cI cC cT x A b0 nc nt f g ++ (SM cI cL S C T nc nt f g)) ⟨hx, hb, hml, hown, hts⟩ (mX3_about l D cI cC cT cL hl0 x b0 A nc nt f g (nI j) (nI k) hnt) (cwV 2 hts gX4_isSame_X3_about rfl rfl rfl pX3_about ⟨by decide, by decide⟩) hK hP hD hS hA hST ((Jf_l _ (Jf_all _ _ yw_fst))).1 ((Jf_l _ (Jf_all _ _ yw_fst))).1 0 rfl rfl rfl rfl hl.1 rfl (Nat.le_of_ble_eq_true rfl) dX4_isSame_70 ⟨(by show _ ≤ 130; omega), (by show _ ≤ 800; omega)⟩ rfl (fun H locs hP hD hS => ?_)
              rw [show pick3 (nI k).toNatClampNeg (f (19 + 3 * (nI j).toNatClampNeg)) (f (20 + 3 * (nI j).toNatClampNeg)) (f (21 + 3 * (nI j).toNatClampNeg)) = pick3 k (f (19 + 3 * j)) (f (20 + 3 * j)) (f (21 + 3 * j)) by rw [nI_clamp (n := j) (by omega), nI_clamp (n := k) (by omega)]]
              refine lv_aload_n hx hb dX4_isSame_73 rfl (lv_at hl 3 rfl) ?_
              refine w_getM hx hb hts iX4_isSame_X4 hown hK hP (List.mem_append_right _ (sm_b 0 rfl)) rfl 6 (by decide) fX4_isSame_21 rfl rfl (v := .ref (S 4)) dX4_isSame_74 ?_
              refine lv_iload_n hx hb dX4_isSame_77 rfl (lv_at hl 1 rfl) ?_
              refine w_qldA hx hb hK hP (List.mem_append_right _ (sm_b 4 rfl)) rfl j rfl (by omega) (by omega) (v := T j) rfl dX4_isSame_78 ?_
              refine lv_iload_n hx hb dX4_isSame_79 rfl (lv_at hl 0 rfl) ?_
              refine w_ildM hx hb hK hP (List.mem_append_right _ (sm_t (by omega))) rfl k rfl (by omega) (by decide) (v := pick3 k (f (19 + 3 * j)) (f (20 + 3 * j)) (f (21 + 3 * j))) (r3_pick (by omega)) dX4_isSame_80 ?_
              refine lv_icmp_eq (tgt := 86) hx hb dX4_isSame_81 (by decide) (fun c_81 => ?_) (fun c_81 => ?_)
              rotate_left
              · exact absurd rfl c_81
              refine lv_iinc (v := nI (k + 1)) (lv' := [(3, .int (nI (k + 1))), (2, .int (nI j)), (1, .ref x), (0, .ref (S 0))]) hx hb dX4_isSame_86 hl (k := 0) rfl (nI_succ _).symm (by decide) rfl (fun ls hl => ?_)
              refine lv_goto (tgt := 62) hx hb dX4_isSame_89 (by decide) ?_
              exact W.widen (by omega) (by omega) (ih (k + 1) (by omega) _ _ hP hD hS _ (lv_sub hl [0, 1, 2, 3] rfl))
          exact W.widen (by omega) (by omega) (lp3 3 0 (by omega) _ _ hP hD hS _ (lv_sub hl [0, 1, 2, 3] rfl))
      exact W.widen (by omega) (by omega) (lp1 nt 0 (by omega) _ _ hP hD hS _ (lv_sub hl [0, 1, 2] rfl))
    | succ n ih =>
      intro j hj   H locs hP hD hS ls hl
      refine lv_iload_n hx hb dX4_isSame_2 rfl (lv_at hl 0 rfl) ?_
      refine lv_aload_n hx hb dX4_isSame_3 rfl (lv_at hl 2 rfl) ?_
      refine w_getM hx hb hts iX4_isSame_X4 hown hK hP (List.mem_append_right _ (sm_b 0 rfl)) rfl 5 (by decide) fX4_isSame_17 rfl rfl (v := .ref (S 3)) dX4_isSame_4 ?_
      refine w_alenA hx hb hK hP (List.mem_append_right _ (sm_b 3 rfl)) rfl dX4_isSame_7 ?_
      refine lv_icmp_ge (tgt := 49) hx hb dX4_isSame_8 (by decide) (fun c_8 => ?_) (fun c_8 => ?_)
      · exact absurd c_8 (nI_ge (by omega) (by omega))
      refine lv_iconst (v := 0) hx hb dX4_isSame_11 (by decide) ?_
      refine lv_istore_n (lv' := [(3, .int 0), (2, .int (nI j)), (1, .ref x), (0, .ref (S 0))]) hx hb dX4_isSame_12 rfl hl (by decide) rfl (fun ls hl => ?_)
      have lp4 : ∀ (n k : Nat), k + n = 3 → ∀ (H : Heap) (locs : List Loc), va_P D vwCl (YW cI cC cT x A b0 nc nt f g ++ (SM cI cL S C T nc nt f g)) H → va_D A0 (YW cI cC cT x A b0 nc nt f g ++ (SM cI cL S C T nc nt f g)) → va_S A0 s.heap H locs → ∀ ls, lv_has ls 4 [(3, .int (nI k)), (2, .int (nI j)), (1, .ref x), (0, .ref (S 0))] → W p l e ({ frames := 8, cells := 130, slots := 800, locals := 160 } : Room) s m args below meth c H locs (10 * j + 2 * k) (60 * j + 12 * k) (Q0 below D (some (.int 1)) (YW cI cC cT x A b0 nc nt f g ++ (SM cI cL S C T nc nt f g)) A0 args s 130 800) (F0 m 13 ls []) := by
        intro n
        induction n with
        | zero =>
          intro k hk   H locs hP hD hS ls hl
          have hje : 3 = k := by omega
          subst hje
          refine lv_iload_n hx hb dX4_isSame_13 rfl (lv_at hl 0 rfl) ?_
          refine lv_iconst (v := 3) hx hb dX4_isSame_14 (by decide) ?_
          refine lv_icmp_ge (tgt := 43) hx hb dX4_isSame_15 (by decide) (fun c_15 => ?_) (fun c_15 => ?_)
          rotate_left
          · exact absurd (by decide) c_15
          refine lv_iinc (v := nI (j + 1)) (lv' := [(2, .int (nI (j + 1))), (3, .int (nI 3)), (1, .ref x), (0, .ref (S 0))]) hx hb dX4_isSame_43 hl (k := 1) rfl (nI_succ _).symm (by decide) rfl (fun ls hl => ?_)
          refine lv_goto (tgt := 2) hx hb dX4_isSame_46 (by decide) ?_
          exact W.widen (by omega) (by omega) (ih (j + 1) (by omega) _ _ hP hD hS _ (lv_sub hl [0, 2, 3] rfl))
        | succ n ih =>
          intro k hk   H locs hP hD hS ls hl
          refine lv_iload_n hx hb dX4_isSame_13 rfl (lv_at hl 0 rfl) ?_
          refine lv_iconst (v := 3) hx hb dX4_isSame_14 (by decide) ?_
          refine lv_icmp_ge (tgt := 43) hx hb dX4_isSame_15 (by decide) (fun c_15 => ?_) (fun c_15 => ?_)
          · exact absurd c_15 (nI_ge (b := 3) (by omega) (by decide))
          refine lv_aload_n hx hb dX4_isSame_18 rfl (lv_at hl 2 rfl) ?_
          refine lv_iload_n hx hb dX4_isSame_19 rfl (lv_at hl 1 rfl) ?_
          refine lv_iload_n hx hb dX4_isSame_20 rfl (lv_at hl 0 rfl) ?_
          refine c1_V0 (xe_no (k_told (n := nc) (i := j) (w := k) (by omega) (by omega) (by omega))) (As := [.int (nI j), .int (nI k)]) (rest := []) (ws' := YW cI cC cT x A b0 nc nt f g ++ (SM cI cL S C T nc nt f g)) ⟨hx, hb, hml, hown, hts⟩ (mX3_told l D cI cC cT cL hl0 x b0 A nc nt f g (nI j) (nI k) hnc) (cwV 2 hts gX4_isSame_X3_told rfl rfl rfl pX3_told ⟨by decide, by decide⟩) hK hP hD hS hA hST ((Jf_l _ (Jf_all _ _ yw_fst))).1 ((Jf_l _ (Jf_all _ _ yw_fst))).1 0 rfl rfl rfl rfl hl.1 rfl (Nat.le_of_ble_eq_true rfl) dX4_isSame_21 ⟨(by show _ ≤ 130; omega), (by show _ ≤ 800; omega)⟩ rfl (fun H locs hP hD hS => ?_)
          rw [show pick3 (nI k).toNatClampNeg (f (7 + 3 * (nI j).toNatClampNeg)) (f (8 + 3 * (nI j).toNatClampNeg)) (f (9 + 3 * (nI j).toNatClampNeg)) = pick3 k (f (7 + 3 * j)) (f (8 + 3 * j)) (f (9 + 3 * j)) by rw [nI_clamp (n := j) (by omega), nI_clamp (n := k) (by omega)]]
          refine lv_aload_n hx hb dX4_isSame_24 rfl (lv_at hl 3 rfl) ?_
          refine w_getM hx hb hts iX4_isSame_X4 hown hK hP (List.mem_append_right _ (sm_b 0 rfl)) rfl 5 (by decide) fX4_isSame_17 rfl rfl (v := .ref (S 3)) dX4_isSame_25 ?_
          refine lv_iload_n hx hb dX4_isSame_28 rfl (lv_at hl 1 rfl) ?_
          refine w_qldA hx hb hK hP (List.mem_append_right _ (sm_b 3 rfl)) rfl j rfl (by omega) (by omega) (v := C j) rfl dX4_isSame_29 ?_
          refine lv_iload_n hx hb dX4_isSame_30 rfl (lv_at hl 0 rfl) ?_
          refine w_ildM hx hb hK hP (List.mem_append_right _ (sm_c (by omega))) rfl k rfl (by omega) (by decide) (v := pick3 k (f (7 + 3 * j)) (f (8 + 3 * j)) (f (9 + 3 * j))) (r3_pick (by omega)) dX4_isSame_31 ?_
          refine lv_icmp_eq (tgt := 37) hx hb dX4_isSame_32 (by decide) (fun c_32 => ?_) (fun c_32 => ?_)
          rotate_left
          · exact absurd rfl c_32
          refine lv_iinc (v := nI (k + 1)) (lv' := [(3, .int (nI (k + 1))), (2, .int (nI j)), (1, .ref x), (0, .ref (S 0))]) hx hb dX4_isSame_37 hl (k := 0) rfl (nI_succ _).symm (by decide) rfl (fun ls hl => ?_)
          refine lv_goto (tgt := 13) hx hb dX4_isSame_40 (by decide) ?_
          exact W.widen (by omega) (by omega) (ih (k + 1) (by omega) _ _ hP hD hS _ (lv_sub hl [0, 1, 2, 3] rfl))
      exact W.widen (by omega) (by omega) (lp4 3 0 (by omega) _ _ hP hD hS _ (lv_sub hl [0, 1, 2, 3] rfl))
  exact W.widen (by omega) (by omega) (lp0 nc 0 (by omega) _ _ hP hD hS _ (lv_sub hl [0, 2, 1] rfl))
