set_option maxHeartbeats 4000000 in
set_option maxRecDepth 100000 in
theorem law_scoop {p : Program} {l : Launch} {e : Env} {s : State} {m : MethodId} {args : Array Value} {below : List Frame} {meth : Method} {c : Code} {Q : State → Prop} {A0 : Nat → Prop} {b L : Nat} {xs : Nat → Int32} {D : va_G} {cI cC cT cL : ClassId} {x : Nat} {A B : Nat → Nat} {ob : Nat} {M : Nat → Nat} {j h cells slots : Nat} {nc nt : Nat} {f g : Nat → Int32} {w : Nat → Int64} {nc2 nt2 : Nat} {f2 g2 : Nat → Int32} {th : Int32} {k : Nat → Int32} {H : Heap} {locs : List Loc} {ls : Array Slot} (EL : LE p l s m args c A0 b L xs D cI cC cT cL) (G : GS nc nt f g h) (hh : h < 2 ^ 28) (hcl : cells + 20 ≤ 601024) (hsl : slots + 200 ≤ 7293034) (hj : 4 * j + 4 ≤ L) (hL : L ≤ 2048) (kk : LK p l e s m args below meth c Q A0 b D cI cC cT cL x A B ob M j h cells slots) (hP : va_P D vwCl (LV cI cC cT cL x A B ob M nc nt f g w nc2 nt2 f2 g2 th nc nt f k g) H) (hD : va_D A0 (LV cI cC cT cL x A B ob M nc nt f g w nc2 nt2 f2 g2 th nc nt f k g)) (hS : va_S A0 s.heap H locs) (hl : lv_has ls 9 [(4, .int (nI (4 * j))), (3, .ref ob), (2, .ref (M 0)), (1, .ref x), (0, .ref b)]) : W p l e room_1 s m args below meth c H locs cells slots Q (F0 m 496 ls []) := by
  obtain ⟨hx, hb, hml, hown, hts, hK, hST, hX, hbl, hbA, hA, hl0⟩ := EL
  obtain ⟨u, hu9⟩ : ∃ u, u = xs (nI (4 * j) + 1).toNatClampNeg := ⟨_, rfl⟩
  obtain ⟨v, hv9⟩ : ∃ v, v = xs (nI (4 * j) + 2).toNatClampNeg := ⟨_, rfl⟩
  obtain ⟨z, hz9⟩ : ∃ z, z = xs (nI (4 * j) + 3).toNatClampNeg := ⟨_, rfl⟩
  have hin1 : vp_in (nI (4 * j) + 1) L := (nI_add (4 * j) 1).symm ▸ vp_in_nI (by omega) (by omega)
  have hin2 : vp_in (nI (4 * j) + 2) L := (nI_add (4 * j) 2).symm ▸ vp_in_nI (by omega) (by omega)
  have hin3 : vp_in (nI (4 * j) + 3) L := (nI_add (4 * j) 3).symm ▸ vp_in_nI (by omega) (by omega)
  refine lv_aload_n hx hb dL_law_496 rfl (lv_at hl 3 rfl) ?_
  refine lv_aload_n hx hb dL_law_497 rfl (lv_at hl 4 rfl) ?_
  refine lv_iload hx hb dL_law_498 (lv_at hl 0 rfl) ?_
  refine lv_iconst (v := 1) hx hb dL_law_500 (by decide) ?_
  refine lv_iadd hx hb dL_law_501 ?_
  refine va_sld hx hb hX hbl hbA hS hin1 dL_law_502 ?_
  rw [← hu9]
  refine lv_aload_n hx hb dL_law_503 rfl (lv_at hl 4 rfl) ?_
  refine lv_iload hx hb dL_law_504 (lv_at hl 0 rfl) ?_
  refine lv_iconst (v := 2) hx hb dL_law_506 (by decide) ?_
  refine lv_iadd hx hb dL_law_507 ?_
  refine va_sld hx hb hX hbl hbA hS hin2 dL_law_508 ?_
  rw [← hv9]
  refine lv_aload_n hx hb dL_law_509 rfl (lv_at hl 1 rfl) ?_
  refine c0_SW (As := [.ref x, .int u, .int v, .ref ob]) (rest := []) ⟨hx, hb, hml, hown, hts⟩ (wscoop l D cI cC cT cL hl0 x (B 0) A nc nt f g ob w u v G.1 G.2.1) (vx_cwSW 4 hts gL_law_L_scoop rfl rfl rfl pL_scoop ⟨Nat.le_of_ble_eq_true rfl, Nat.le_of_ble_eq_true rfl⟩) hK hP hD hS hA hST (J_o) rfl hl.1 rfl (Nat.le_of_ble_eq_true rfl) dL_law_510 ⟨(by show _ ≤ 601024; omega), (by show _ ≤ 7293034; omega)⟩ rfl (fun H locs hP hD hS => ?_)
  refine lv_istore (lv' := [(5, .int (nI (kScoop nc nt f u v))), (4, .int (nI (4 * j))), (3, .ref ob), (2, .ref (M 0)), (1, .ref x), (0, .ref b)]) hx hb dL_law_513 hl (by decide) rfl (fun ls hl => ?_)
  refine lv_aload_n hx hb dL_law_515 rfl (lv_at hl 3 rfl) ?_
  refine lv_aload_n hx hb dL_law_516 rfl (lv_at hl 5 rfl) ?_
  refine lv_iload hx hb dL_law_517 (lv_at hl 1 rfl) ?_
  refine lv_iconst (v := 1) hx hb dL_law_519 (by decide) ?_
  refine lv_iadd hx hb dL_law_520 ?_
  refine va_sld hx hb hX hbl hbA hS hin1 dL_law_521 ?_
  rw [← hu9]
  refine lv_aload_n hx hb dL_law_522 rfl (lv_at hl 5 rfl) ?_
  refine lv_iload hx hb dL_law_523 (lv_at hl 1 rfl) ?_
  refine lv_iconst (v := 2) hx hb dL_law_525 (by decide) ?_
  refine lv_iadd hx hb dL_law_526 ?_
  refine va_sld hx hb hX hbl hbA hS hin2 dL_law_527 ?_
  rw [← hv9]
  refine c0_V (As := [.int u, .int v]) (rest := []) ⟨hx, hb, hml, hown, hts⟩ (mX4_scoop l D cI cC cT cL M th nc nt f k g u v G.1 G.2.1) (cwV 2 hts gL_law_X4_scoop rfl rfl rfl pX4_scoop ⟨Nat.le_of_ble_eq_true rfl, Nat.le_of_ble_eq_true rfl⟩) hK hP hD hS hA hST (J_m) 0 rfl rfl rfl rfl hl.1 rfl (Nat.le_of_ble_eq_true rfl) dL_law_528 ⟨(by show _ ≤ 601024; omega), (by show _ ≤ 7293034; omega)⟩ rfl (fun H locs hP hD hS => ?_)
  refine lv_istore (lv' := [(6, .int (sel (kScoop nc nt f u v) (scoopF f u.toNatClampNeg v.toNatClampNeg (19 + 3 * v.toNatClampNeg)) 0)), (5, .int (nI (kScoop nc nt f u v))), (4, .int (nI (4 * j))), (3, .ref ob), (2, .ref (M 0)), (1, .ref x), (0, .ref b)]) hx hb dL_law_531 hl (by decide) rfl (fun ls hl => ?_)
  refine lv_aload_n hx hb dL_law_533 rfl (lv_at hl 4 rfl) ?_
  refine c0_V (As := []) (rest := []) ⟨hx, hb, hml, hown, hts⟩ (mX4_thrown l D cI cC cT cL M (nI (kScoop nc nt f u v)) nc nt (sel (kScoop nc nt f u v) (scoopF f u.toNatClampNeg v.toNatClampNeg) f) k g) (cwV 0 hts gL_law_X4_thrown rfl rfl rfl pX4_thrown ⟨Nat.le_of_ble_eq_true rfl, Nat.le_of_ble_eq_true rfl⟩) hK hP hD hS hA hST (J_m) 0 rfl rfl rfl rfl hl.1 rfl (Nat.le_of_ble_eq_true rfl) dL_law_534 ⟨(by show _ ≤ 601024; omega), (by show _ ≤ 7293034; omega)⟩ rfl (fun H locs hP hD hS => ?_)
  refine lv_iload hx hb dL_law_537 (lv_at hl 1 rfl) ?_
  refine lv_icmp_eq (tgt := 544) hx hb dL_law_539 (by decide) (fun c_539 => ?_) (fun c_539 => ?_)
  rotate_left
  · exact absurd rfl c_539
  refine lv_iload hx hb dL_law_544 (lv_at hl 1 rfl) ?_
  refine lv_if_ne (tgt := 561) hx hb dL_law_546 (by decide) (fun c_546 => ?_) (fun c_546 => ?_)
  ·
    refine lv_goto (tgt := 1085) hx hb dL_law_561 (by decide) ?_
    obtain ⟨h9, hh9, G9⟩ := (⟨h, Nat.le_add_right _ _, g_scoop u v G⟩ : ∃ h9, h9 ≤ h + 168 ∧ _)
    exact W.widen (by omega) (by omega) (kk _ _ _ _ _ _ _ _ _ _ _ h9 H locs ls G9 hh9 hP hD hS (lv_sub hl [2, 3, 4, 5, 6] rfl))
  ·
    have hK9 := K_0 (l_scoop nc nt f u v) c_546
    refine lv_aload_n hx hb dL_law_549 rfl (lv_at hl 3 rfl) ?_
    refine lv_iconst (v := 0) hx hb dL_law_550 (by decide) ?_
    refine w_lld hx hb hK hP 16 3 rfl rfl 0 rfl (by decide) (by decide) (v := (sel (kScoop nc nt f u v) (vp_updL w 0 ((scoopF f u.toNatClampNeg v.toNatClampNeg (19 + 3 * v.toNatClampNeg)).toInt64)) w) 0) rfl dL_law_551 ?_
    refine lv_iload hx hb dL_law_552 (lv_at hl 0 rfl) ?_
    refine lv_i2l hx hb dL_law_554 rfl ?_
    refine W.lcmp hx hb dL_law_555 ?_
    refine lv_if_eq (tgt := 561) hx hb dL_law_556 (by decide) (fun c_556 => ?_) (fun c_556 => ?_)
    rotate_left
    · exact absurd (by rw [hK9, sel_0, sel_0, updL_0]; exact lg_self _) c_556
    refine lv_goto (tgt := 1085) hx hb dL_law_561 (by decide) ?_
    obtain ⟨h9, hh9, G9⟩ := (⟨h, Nat.le_add_right _ _, g_scoop u v G⟩ : ∃ h9, h9 ≤ h + 168 ∧ _)
    exact W.widen (by omega) (by omega) (kk _ _ _ _ _ _ _ _ _ _ _ h9 H locs ls G9 hh9 hP hD hS (lv_sub hl [2, 3, 4, 5, 6] rfl))

set_option maxHeartbeats 4000000 in
set_option maxRecDepth 100000 in
theorem law_told {p : Program} {l : Launch} {e : Env} {s : State} {m : MethodId} {args : Array Value} {below : List Frame} {meth : Method} {c : Code} {Q : State → Prop} {A0 : Nat → Prop} {b L : Nat} {xs : Nat → Int32} {D : va_G} {cI cC cT cL : ClassId} {x : Nat} {A B : Nat → Nat} {ob : Nat} {M : Nat → Nat} {j h cells slots : Nat} {nc nt : Nat} {f g : Nat → Int32} {w : Nat → Int64} {nc2 nt2 : Nat} {f2 g2 : Nat → Int32} {th : Int32} {k : Nat → Int32} {H : Heap} {locs : List Loc} {ls : Array Slot} (EL : LE p l s m args c A0 b L xs D cI cC cT cL) (G : GS nc nt f g h) (hh : h < 2 ^ 28) (hcl : cells + 20 ≤ 601024) (hsl : slots + 200 ≤ 7293034) (hj : 4 * j + 4 ≤ L) (hL : L ≤ 2048) (kk : LK p l e s m args below meth c Q A0 b D cI cC cT cL x A B ob M j h cells slots) (hP : va_P D vwCl (LV cI cC cT cL x A B ob M nc nt f g w nc2 nt2 f2 g2 th nc nt f k g) H) (hD : va_D A0 (LV cI cC cT cL x A B ob M nc nt f g w nc2 nt2 f2 g2 th nc nt f k g)) (hS : va_S A0 s.heap H locs) (hl : lv_has ls 9 [(4, .int (nI (4 * j))), (3, .ref ob), (2, .ref (M 0)), (1, .ref x), (0, .ref b)]) : W p l e room_1 s m args below meth c H locs cells slots Q (F0 m 564 ls []) := by
  obtain ⟨hx, hb, hml, hown, hts, hK, hST, hX, hbl, hbA, hA, hl0⟩ := EL
  obtain ⟨u, hu9⟩ : ∃ u, u = xs (nI (4 * j) + 1).toNatClampNeg := ⟨_, rfl⟩
  obtain ⟨v, hv9⟩ : ∃ v, v = xs (nI (4 * j) + 2).toNatClampNeg := ⟨_, rfl⟩
  obtain ⟨z, hz9⟩ : ∃ z, z = xs (nI (4 * j) + 3).toNatClampNeg := ⟨_, rfl⟩
  have hin1 : vp_in (nI (4 * j) + 1) L := (nI_add (4 * j) 1).symm ▸ vp_in_nI (by omega) (by omega)
  have hin2 : vp_in (nI (4 * j) + 2) L := (nI_add (4 * j) 2).symm ▸ vp_in_nI (by omega) (by omega)
  have hin3 : vp_in (nI (4 * j) + 3) L := (nI_add (4 * j) 3).symm ▸ vp_in_nI (by omega) (by omega)
  refine lv_aload_n hx hb dL_law_564 rfl (lv_at hl 3 rfl) ?_
  refine lv_aload_n hx hb dL_law_565 rfl (lv_at hl 4 rfl) ?_
  refine lv_iload hx hb dL_law_566 (lv_at hl 0 rfl) ?_
  refine lv_iconst (v := 1) hx hb dL_law_568 (by decide) ?_
  refine lv_iadd hx hb dL_law_569 ?_
  refine va_sld hx hb hX hbl hbA hS hin1 dL_law_570 ?_
  rw [← hu9]
  refine lv_aload_n hx hb dL_law_571 rfl (lv_at hl 4 rfl) ?_
  refine lv_iload hx hb dL_law_572 (lv_at hl 0 rfl) ?_
  refine lv_iconst (v := 2) hx hb dL_law_574 (by decide) ?_
  refine lv_iadd hx hb dL_law_575 ?_
  refine va_sld hx hb hX hbl hbA hS hin2 dL_law_576 ?_
  rw [← hv9]
  refine lv_aload_n hx hb dL_law_577 rfl (lv_at hl 1 rfl) ?_
  refine c0_SW (As := [.ref x, .int u, .int v, .ref ob]) (rest := []) ⟨hx, hb, hml, hown, hts⟩ (wtold l D cI cC cT cL hl0 x (B 0) A nc nt f g ob w u v G.1) (vx_cwSW 4 hts gL_law_L_told rfl rfl rfl pL_told ⟨Nat.le_of_ble_eq_true rfl, Nat.le_of_ble_eq_true rfl⟩) hK hP hD hS hA hST (J_o) rfl hl.1 rfl (Nat.le_of_ble_eq_true rfl) dL_law_578 ⟨(by show _ ≤ 601024; omega), (by show _ ≤ 7293034; omega)⟩ rfl (fun H locs hP hD hS => ?_)
  refine lv_istore (lv' := [(5, .int (nI (kTold nc u v))), (4, .int (nI (4 * j))), (3, .ref ob), (2, .ref (M 0)), (1, .ref x), (0, .ref b)]) hx hb dL_law_581 hl (by decide) rfl (fun ls hl => ?_)
  refine lv_aload_n hx hb dL_law_583 rfl (lv_at hl 3 rfl) ?_
  refine lv_aload_n hx hb dL_law_584 rfl (lv_at hl 5 rfl) ?_
  refine lv_iload hx hb dL_law_585 (lv_at hl 1 rfl) ?_
  refine lv_iconst (v := 1) hx hb dL_law_587 (by decide) ?_
  refine lv_iadd hx hb dL_law_588 ?_
  refine va_sld hx hb hX hbl hbA hS hin1 dL_law_589 ?_
  rw [← hu9]
  refine lv_aload_n hx hb dL_law_590 rfl (lv_at hl 5 rfl) ?_
  refine lv_iload hx hb dL_law_591 (lv_at hl 1 rfl) ?_
  refine lv_iconst (v := 2) hx hb dL_law_593 (by decide) ?_
  refine lv_iadd hx hb dL_law_594 ?_
  refine va_sld hx hb hX hbl hbA hS hin2 dL_law_595 ?_
  rw [← hv9]
  refine c0_V (As := [.int u, .int v]) (rest := []) ⟨hx, hb, hml, hown, hts⟩ (mX4_told l D cI cC cT cL M th nc nt f k g u v G.1) (cwV 2 hts gL_law_X4_told rfl rfl rfl pX4_told ⟨Nat.le_of_ble_eq_true rfl, Nat.le_of_ble_eq_true rfl⟩) hK hP hD hS hA hST (J_m) 0 rfl rfl rfl rfl hl.1 rfl (Nat.le_of_ble_eq_true rfl) dL_law_596 ⟨(by show _ ≤ 601024; omega), (by show _ ≤ 7293034; omega)⟩ rfl (fun H locs hP hD hS => ?_)
  refine lv_istore (lv' := [(6, .int (sel (kTold nc u v) (pick3 v.toNatClampNeg (f (7 + 3 * u.toNatClampNeg)) (f (8 + 3 * u.toNatClampNeg)) (f (9 + 3 * u.toNatClampNeg))) 0)), (5, .int (nI (kTold nc u v))), (4, .int (nI (4 * j))), (3, .ref ob), (2, .ref (M 0)), (1, .ref x), (0, .ref b)]) hx hb dL_law_599 hl (by decide) rfl (fun ls hl => ?_)
  refine lv_aload_n hx hb dL_law_601 rfl (lv_at hl 4 rfl) ?_
  refine c0_V (As := []) (rest := []) ⟨hx, hb, hml, hown, hts⟩ (mX4_thrown l D cI cC cT cL M (nI (kTold nc u v)) nc nt f k g) (cwV 0 hts gL_law_X4_thrown rfl rfl rfl pX4_thrown ⟨Nat.le_of_ble_eq_true rfl, Nat.le_of_ble_eq_true rfl⟩) hK hP hD hS hA hST (J_m) 0 rfl rfl rfl rfl hl.1 rfl (Nat.le_of_ble_eq_true rfl) dL_law_602 ⟨(by show _ ≤ 601024; omega), (by show _ ≤ 7293034; omega)⟩ rfl (fun H locs hP hD hS => ?_)
  refine lv_iload hx hb dL_law_605 (lv_at hl 1 rfl) ?_
  refine lv_icmp_eq (tgt := 612) hx hb dL_law_607 (by decide) (fun c_607 => ?_) (fun c_607 => ?_)
  rotate_left
  · exact absurd rfl c_607
  refine lv_iload hx hb dL_law_612 (lv_at hl 1 rfl) ?_
  refine lv_if_ne (tgt := 629) hx hb dL_law_614 (by decide) (fun c_614 => ?_) (fun c_614 => ?_)
  ·
    refine lv_goto (tgt := 1085) hx hb dL_law_629 (by decide) ?_
    obtain ⟨h9, hh9, G9⟩ := (⟨h, Nat.le_add_right _ _, G⟩ : ∃ h9, h9 ≤ h + 168 ∧ _)
    exact W.widen (by omega) (by omega) (kk _ _ _ _ _ _ _ _ _ _ _ h9 H locs ls G9 hh9 hP hD hS (lv_sub hl [2, 3, 4, 5, 6] rfl))
  ·
    have hK9 := K_0 (l_told nc u v) c_614
    refine lv_aload_n hx hb dL_law_617 rfl (lv_at hl 3 rfl) ?_
    refine lv_iconst (v := 0) hx hb dL_law_618 (by decide) ?_
    refine w_lld hx hb hK hP 16 3 rfl rfl 0 rfl (by decide) (by decide) (v := (sel (kTold nc u v) (vp_updL w 0 ((pick3 v.toNatClampNeg (f (7 + 3 * u.toNatClampNeg)) (f (8 + 3 * u.toNatClampNeg)) (f (9 + 3 * u.toNatClampNeg))).toInt64)) w) 0) rfl dL_law_619 ?_
    refine lv_iload hx hb dL_law_620 (lv_at hl 0 rfl) ?_
    refine lv_i2l hx hb dL_law_622 rfl ?_
    refine W.lcmp hx hb dL_law_623 ?_
    refine lv_if_eq (tgt := 629) hx hb dL_law_624 (by decide) (fun c_624 => ?_) (fun c_624 => ?_)
    rotate_left
    · exact absurd (by rw [hK9, sel_0, sel_0, updL_0]; exact lg_self _) c_624
    refine lv_goto (tgt := 1085) hx hb dL_law_629 (by decide) ?_
    obtain ⟨h9, hh9, G9⟩ := (⟨h, Nat.le_add_right _ _, G⟩ : ∃ h9, h9 ≤ h + 168 ∧ _)
    exact W.widen (by omega) (by omega) (kk _ _ _ _ _ _ _ _ _ _ _ h9 H locs ls G9 hh9 hP hD hS (lv_sub hl [2, 3, 4, 5, 6] rfl))

set_option maxHeartbeats 4000000 in
set_option maxRecDepth 100000 in
theorem law_about {p : Program} {l : Launch} {e : Env} {s : State} {m : MethodId} {args : Array Value} {below : List Frame} {meth : Method} {c : Code} {Q : State → Prop} {A0 : Nat → Prop} {b L : Nat} {xs : Nat → Int32} {D : va_G} {cI cC cT cL : ClassId} {x : Nat} {A B : Nat → Nat} {ob : Nat} {M : Nat → Nat} {j h cells slots : Nat} {nc nt : Nat} {f g : Nat → Int32} {w : Nat → Int64} {nc2 nt2 : Nat} {f2 g2 : Nat → Int32} {th : Int32} {k : Nat → Int32} {H : Heap} {locs : List Loc} {ls : Array Slot} (EL : LE p l s m args c A0 b L xs D cI cC cT cL) (G : GS nc nt f g h) (hh : h < 2 ^ 28) (hcl : cells + 20 ≤ 601024) (hsl : slots + 200 ≤ 7293034) (hj : 4 * j + 4 ≤ L) (hL : L ≤ 2048) (kk : LK p l e s m args below meth c Q A0 b D cI cC cT cL x A B ob M j h cells slots) (hP : va_P D vwCl (LV cI cC cT cL x A B ob M nc nt f g w nc2 nt2 f2 g2 th nc nt f k g) H) (hD : va_D A0 (LV cI cC cT cL x A B ob M nc nt f g w nc2 nt2 f2 g2 th nc nt f k g)) (hS : va_S A0 s.heap H locs) (hl : lv_has ls 9 [(4, .int (nI (4 * j))), (3, .ref ob), (2, .ref (M 0)), (1, .ref x), (0, .ref b)]) : W p l e room_1 s m args below meth c H locs cells slots Q (F0 m 632 ls []) := by
  obtain ⟨hx, hb, hml, hown, hts, hK, hST, hX, hbl, hbA, hA, hl0⟩ := EL
  obtain ⟨u, hu9⟩ : ∃ u, u = xs (nI (4 * j) + 1).toNatClampNeg := ⟨_, rfl⟩
  obtain ⟨v, hv9⟩ : ∃ v, v = xs (nI (4 * j) + 2).toNatClampNeg := ⟨_, rfl⟩
  obtain ⟨z, hz9⟩ : ∃ z, z = xs (nI (4 * j) + 3).toNatClampNeg := ⟨_, rfl⟩
  have hin1 : vp_in (nI (4 * j) + 1) L := (nI_add (4 * j) 1).symm ▸ vp_in_nI (by omega) (by omega)
  have hin2 : vp_in (nI (4 * j) + 2) L := (nI_add (4 * j) 2).symm ▸ vp_in_nI (by omega) (by omega)
  have hin3 : vp_in (nI (4 * j) + 3) L := (nI_add (4 * j) 3).symm ▸ vp_in_nI (by omega) (by omega)
  refine lv_aload_n hx hb dL_law_632 rfl (lv_at hl 3 rfl) ?_
  refine lv_aload_n hx hb dL_law_633 rfl (lv_at hl 4 rfl) ?_
  refine lv_iload hx hb dL_law_634 (lv_at hl 0 rfl) ?_
  refine lv_iconst (v := 1) hx hb dL_law_636 (by decide) ?_
  refine lv_iadd hx hb dL_law_637 ?_
  refine va_sld hx hb hX hbl hbA hS hin1 dL_law_638 ?_
  rw [← hu9]
  refine lv_aload_n hx hb dL_law_639 rfl (lv_at hl 4 rfl) ?_
  refine lv_iload hx hb dL_law_640 (lv_at hl 0 rfl) ?_
  refine lv_iconst (v := 2) hx hb dL_law_642 (by decide) ?_
  refine lv_iadd hx hb dL_law_643 ?_
  refine va_sld hx hb hX hbl hbA hS hin2 dL_law_644 ?_
  rw [← hv9]
  refine lv_aload_n hx hb dL_law_645 rfl (lv_at hl 1 rfl) ?_
  refine c0_SW (As := [.ref x, .int u, .int v, .ref ob]) (rest := []) ⟨hx, hb, hml, hown, hts⟩ (wabout l D cI cC cT cL hl0 x (B 0) A nc nt f g ob w u v G.2.1) (vx_cwSW 4 hts gL_law_L_about rfl rfl rfl pL_about ⟨Nat.le_of_ble_eq_true rfl, Nat.le_of_ble_eq_true rfl⟩) hK hP hD hS hA hST (J_o) rfl hl.1 rfl (Nat.le_of_ble_eq_true rfl) dL_law_646 ⟨(by show _ ≤ 601024; omega), (by show _ ≤ 7293034; omega)⟩ rfl (fun H locs hP hD hS => ?_)
  refine lv_istore (lv' := [(5, .int (nI (kTold nt u v))), (4, .int (nI (4 * j))), (3, .ref ob), (2, .ref (M 0)), (1, .ref x), (0, .ref b)]) hx hb dL_law_649 hl (by decide) rfl (fun ls hl => ?_)
  refine lv_aload_n hx hb dL_law_651 rfl (lv_at hl 3 rfl) ?_
  refine lv_aload_n hx hb dL_law_652 rfl (lv_at hl 5 rfl) ?_
  refine lv_iload hx hb dL_law_653 (lv_at hl 1 rfl) ?_
  refine lv_iconst (v := 1) hx hb dL_law_655 (by decide) ?_
  refine lv_iadd hx hb dL_law_656 ?_
  refine va_sld hx hb hX hbl hbA hS hin1 dL_law_657 ?_
  rw [← hu9]
  refine lv_aload_n hx hb dL_law_658 rfl (lv_at hl 5 rfl) ?_
  refine lv_iload hx hb dL_law_659 (lv_at hl 1 rfl) ?_
  refine lv_iconst (v := 2) hx hb dL_law_661 (by decide) ?_
  refine lv_iadd hx hb dL_law_662 ?_
  refine va_sld hx hb hX hbl hbA hS hin2 dL_law_663 ?_
  rw [← hv9]
  refine c0_V (As := [.int u, .int v]) (rest := []) ⟨hx, hb, hml, hown, hts⟩ (mX4_about l D cI cC cT cL M th nc nt f k g u v G.2.1) (cwV 2 hts gL_law_X4_about rfl rfl rfl pX4_about ⟨Nat.le_of_ble_eq_true rfl, Nat.le_of_ble_eq_true rfl⟩) hK hP hD hS hA hST (J_m) 0 rfl rfl rfl rfl hl.1 rfl (Nat.le_of_ble_eq_true rfl) dL_law_664 ⟨(by show _ ≤ 601024; omega), (by show _ ≤ 7293034; omega)⟩ rfl (fun H locs hP hD hS => ?_)
  refine lv_istore (lv' := [(6, .int (sel (kTold nt u v) (pick3 v.toNatClampNeg (f (19 + 3 * u.toNatClampNeg)) (f (20 + 3 * u.toNatClampNeg)) (f (21 + 3 * u.toNatClampNeg))) 0)), (5, .int (nI (kTold nt u v))), (4, .int (nI (4 * j))), (3, .ref ob), (2, .ref (M 0)), (1, .ref x), (0, .ref b)]) hx hb dL_law_667 hl (by decide) rfl (fun ls hl => ?_)
  refine lv_aload_n hx hb dL_law_669 rfl (lv_at hl 4 rfl) ?_
  refine c0_V (As := []) (rest := []) ⟨hx, hb, hml, hown, hts⟩ (mX4_thrown l D cI cC cT cL M (nI (kTold nt u v)) nc nt f k g) (cwV 0 hts gL_law_X4_thrown rfl rfl rfl pX4_thrown ⟨Nat.le_of_ble_eq_true rfl, Nat.le_of_ble_eq_true rfl⟩) hK hP hD hS hA hST (J_m) 0 rfl rfl rfl rfl hl.1 rfl (Nat.le_of_ble_eq_true rfl) dL_law_670 ⟨(by show _ ≤ 601024; omega), (by show _ ≤ 7293034; omega)⟩ rfl (fun H locs hP hD hS => ?_)
  refine lv_iload hx hb dL_law_673 (lv_at hl 1 rfl) ?_
  refine lv_icmp_eq (tgt := 680) hx hb dL_law_675 (by decide) (fun c_675 => ?_) (fun c_675 => ?_)
  rotate_left
  · exact absurd rfl c_675
  refine lv_iload hx hb dL_law_680 (lv_at hl 1 rfl) ?_
  refine lv_if_ne (tgt := 697) hx hb dL_law_682 (by decide) (fun c_682 => ?_) (fun c_682 => ?_)
  ·
    refine lv_goto (tgt := 1085) hx hb dL_law_697 (by decide) ?_
    obtain ⟨h9, hh9, G9⟩ := (⟨h, Nat.le_add_right _ _, G⟩ : ∃ h9, h9 ≤ h + 168 ∧ _)
    exact W.widen (by omega) (by omega) (kk _ _ _ _ _ _ _ _ _ _ _ h9 H locs ls G9 hh9 hP hD hS (lv_sub hl [2, 3, 4, 5, 6] rfl))
  ·
    have hK9 := K_0 (l_told nt u v) c_682
    refine lv_aload_n hx hb dL_law_685 rfl (lv_at hl 3 rfl) ?_
    refine lv_iconst (v := 0) hx hb dL_law_686 (by decide) ?_
    refine w_lld hx hb hK hP 16 3 rfl rfl 0 rfl (by decide) (by decide) (v := (sel (kTold nt u v) (vp_updL w 0 ((pick3 v.toNatClampNeg (f (19 + 3 * u.toNatClampNeg)) (f (20 + 3 * u.toNatClampNeg)) (f (21 + 3 * u.toNatClampNeg))).toInt64)) w) 0) rfl dL_law_687 ?_
    refine lv_iload hx hb dL_law_688 (lv_at hl 0 rfl) ?_
    refine lv_i2l hx hb dL_law_690 rfl ?_
    refine W.lcmp hx hb dL_law_691 ?_
    refine lv_if_eq (tgt := 697) hx hb dL_law_692 (by decide) (fun c_692 => ?_) (fun c_692 => ?_)
    rotate_left
    · exact absurd (by rw [hK9, sel_0, sel_0, updL_0]; exact lg_self _) c_692
    refine lv_goto (tgt := 1085) hx hb dL_law_697 (by decide) ?_
    obtain ⟨h9, hh9, G9⟩ := (⟨h, Nat.le_add_right _ _, G⟩ : ∃ h9, h9 ≤ h + 168 ∧ _)
    exact W.widen (by omega) (by omega) (kk _ _ _ _ _ _ _ _ _ _ _ h9 H locs ls G9 hh9 hP hD hS (lv_sub hl [2, 3, 4, 5, 6] rfl))

set_option maxHeartbeats 4000000 in
set_option maxRecDepth 100000 in
theorem law_count {p : Program} {l : Launch} {e : Env} {s : State} {m : MethodId} {args : Array Value} {below : List Frame} {meth : Method} {c : Code} {Q : State → Prop} {A0 : Nat → Prop} {b L : Nat} {xs : Nat → Int32} {D : va_G} {cI cC cT cL : ClassId} {x : Nat} {A B : Nat → Nat} {ob : Nat} {M : Nat → Nat} {j h cells slots : Nat} {nc nt : Nat} {f g : Nat → Int32} {w : Nat → Int64} {nc2 nt2 : Nat} {f2 g2 : Nat → Int32} {th : Int32} {k : Nat → Int32} {H : Heap} {locs : List Loc} {ls : Array Slot} (EL : LE p l s m args c A0 b L xs D cI cC cT cL) (G : GS nc nt f g h) (hh : h < 2 ^ 28) (hcl : cells + 20 ≤ 601024) (hsl : slots + 200 ≤ 7293034) (hj : 4 * j + 4 ≤ L) (hL : L ≤ 2048) (kk : LK p l e s m args below meth c Q A0 b D cI cC cT cL x A B ob M j h cells slots) (hP : va_P D vwCl (LV cI cC cT cL x A B ob M nc nt f g w nc2 nt2 f2 g2 th nc nt f k g) H) (hD : va_D A0 (LV cI cC cT cL x A B ob M nc nt f g w nc2 nt2 f2 g2 th nc nt f k g)) (hS : va_S A0 s.heap H locs) (hl : lv_has ls 9 [(4, .int (nI (4 * j))), (3, .ref ob), (2, .ref (M 0)), (1, .ref x), (0, .ref b)]) : W p l e room_1 s m args below meth c H locs cells slots Q (F0 m 700 ls []) := by
  obtain ⟨hx, hb, hml, hown, hts, hK, hST, hX, hbl, hbA, hA, hl0⟩ := EL
  obtain ⟨u, hu9⟩ : ∃ u, u = xs (nI (4 * j) + 1).toNatClampNeg := ⟨_, rfl⟩
  obtain ⟨v, hv9⟩ : ∃ v, v = xs (nI (4 * j) + 2).toNatClampNeg := ⟨_, rfl⟩
  obtain ⟨z, hz9⟩ : ∃ z, z = xs (nI (4 * j) + 3).toNatClampNeg := ⟨_, rfl⟩
  have hin1 : vp_in (nI (4 * j) + 1) L := (nI_add (4 * j) 1).symm ▸ vp_in_nI (by omega) (by omega)
  have hin2 : vp_in (nI (4 * j) + 2) L := (nI_add (4 * j) 2).symm ▸ vp_in_nI (by omega) (by omega)
  have hin3 : vp_in (nI (4 * j) + 3) L := (nI_add (4 * j) 3).symm ▸ vp_in_nI (by omega) (by omega)
  refine lv_aload_n hx hb dL_law_700 rfl (lv_at hl 3 rfl) ?_
  refine lv_aload_n hx hb dL_law_701 rfl (lv_at hl 4 rfl) ?_
  refine lv_iload hx hb dL_law_702 (lv_at hl 0 rfl) ?_
  refine lv_iconst (v := 1) hx hb dL_law_704 (by decide) ?_
  refine lv_iadd hx hb dL_law_705 ?_
  refine va_sld hx hb hX hbl hbA hS hin1 dL_law_706 ?_
  rw [← hu9]
  refine lv_aload_n hx hb dL_law_707 rfl (lv_at hl 1 rfl) ?_
  refine c0_SW (As := [.ref x, .int u, .ref ob]) (rest := []) ⟨hx, hb, hml, hown, hts⟩ (wcount l D cI cC cT cL hl0 x (B 0) A nc nt f g ob w u G.2.1 h (by omega) G.2.2.2.2) (vx_cwSW 3 hts gL_law_L_count rfl rfl rfl pL_count ⟨Nat.le_of_ble_eq_true rfl, Nat.le_of_ble_eq_true rfl⟩) hK hP hD hS hA hST (J_o) rfl hl.1 rfl (Nat.le_of_ble_eq_true rfl) dL_law_708 ⟨(by show _ ≤ 601024; omega), (by show _ ≤ 7293034; omega)⟩ rfl (fun H locs hP hD hS => ?_)
  refine lv_istore (lv' := [(5, .int (nI (kCount u))), (4, .int (nI (4 * j))), (3, .ref ob), (2, .ref (M 0)), (1, .ref x), (0, .ref b)]) hx hb dL_law_711 hl (by decide) rfl (fun ls hl => ?_)
  refine lv_aload_n hx hb dL_law_713 rfl (lv_at hl 3 rfl) ?_
  refine lv_aload_n hx hb dL_law_714 rfl (lv_at hl 5 rfl) ?_
  refine lv_iload hx hb dL_law_715 (lv_at hl 1 rfl) ?_
  refine lv_iconst (v := 1) hx hb dL_law_717 (by decide) ?_
  refine lv_iadd hx hb dL_law_718 ?_
  refine va_sld hx hb hX hbl hbA hS hin1 dL_law_719 ?_
  rw [← hu9]
  refine c0_V (As := [.int u]) (rest := []) ⟨hx, hb, hml, hown, hts⟩ (mX4_count l D cI cC cT cL M th nc nt f k g u G.2.1 h (by omega) G.2.2.2.2) (cwV 1 hts gL_law_X4_count rfl rfl rfl pX4_count ⟨Nat.le_of_ble_eq_true rfl, Nat.le_of_ble_eq_true rfl⟩) hK hP hD hS hA hST (J_m) 0 rfl rfl rfl rfl hl.1 rfl (Nat.le_of_ble_eq_true rfl) dL_law_720 ⟨(by show _ ≤ 601024; omega), (by show _ ≤ 7293034; omega)⟩ rfl (fun H locs hP hD hS => ?_)
  refine lv_istore (lv' := [(6, .int (sel (kCount u) (cntF nt f g u.toNatClampNeg) 0)), (5, .int (nI (kCount u))), (4, .int (nI (4 * j))), (3, .ref ob), (2, .ref (M 0)), (1, .ref x), (0, .ref b)]) hx hb dL_law_723 hl (by decide) rfl (fun ls hl => ?_)
  refine lv_aload_n hx hb dL_law_725 rfl (lv_at hl 4 rfl) ?_
  refine c0_V (As := []) (rest := []) ⟨hx, hb, hml, hown, hts⟩ (mX4_thrown l D cI cC cT cL M (nI (kCount u)) nc nt f k g) (cwV 0 hts gL_law_X4_thrown rfl rfl rfl pX4_thrown ⟨Nat.le_of_ble_eq_true rfl, Nat.le_of_ble_eq_true rfl⟩) hK hP hD hS hA hST (J_m) 0 rfl rfl rfl rfl hl.1 rfl (Nat.le_of_ble_eq_true rfl) dL_law_726 ⟨(by show _ ≤ 601024; omega), (by show _ ≤ 7293034; omega)⟩ rfl (fun H locs hP hD hS => ?_)
  refine lv_iload hx hb dL_law_729 (lv_at hl 1 rfl) ?_
  refine lv_icmp_eq (tgt := 736) hx hb dL_law_731 (by decide) (fun c_731 => ?_) (fun c_731 => ?_)
  rotate_left
  · exact absurd rfl c_731
  refine lv_iload hx hb dL_law_736 (lv_at hl 1 rfl) ?_
  refine lv_if_ne (tgt := 753) hx hb dL_law_738 (by decide) (fun c_738 => ?_) (fun c_738 => ?_)
  ·
    refine lv_goto (tgt := 1085) hx hb dL_law_753 (by decide) ?_
    obtain ⟨h9, hh9, G9⟩ := (⟨h, Nat.le_add_right _ _, G⟩ : ∃ h9, h9 ≤ h + 168 ∧ _)
    exact W.widen (by omega) (by omega) (kk _ _ _ _ _ _ _ _ _ _ _ h9 H locs ls G9 hh9 hP hD hS (lv_sub hl [2, 3, 4, 5, 6] rfl))
  ·
    have hK9 := K_0 (l_count u) c_738
    refine lv_aload_n hx hb dL_law_741 rfl (lv_at hl 3 rfl) ?_
    refine lv_iconst (v := 0) hx hb dL_law_742 (by decide) ?_
    refine w_lld hx hb hK hP 16 3 rfl rfl 0 rfl (by decide) (by decide) (v := (sel (kCount u) (vp_updL w 0 ((cntF nt f g u.toNatClampNeg).toInt64)) w) 0) rfl dL_law_743 ?_
    refine lv_iload hx hb dL_law_744 (lv_at hl 0 rfl) ?_
    refine lv_i2l hx hb dL_law_746 rfl ?_
    refine W.lcmp hx hb dL_law_747 ?_
    refine lv_if_eq (tgt := 753) hx hb dL_law_748 (by decide) (fun c_748 => ?_) (fun c_748 => ?_)
    rotate_left
    · exact absurd (by rw [hK9, sel_0, sel_0, updL_0]; exact lg_self _) c_748
    refine lv_goto (tgt := 1085) hx hb dL_law_753 (by decide) ?_
    obtain ⟨h9, hh9, G9⟩ := (⟨h, Nat.le_add_right _ _, G⟩ : ∃ h9, h9 ≤ h + 168 ∧ _)
    exact W.widen (by omega) (by omega) (kk _ _ _ _ _ _ _ _ _ _ _ h9 H locs ls G9 hh9 hP hD hS (lv_sub hl [2, 3, 4, 5, 6] rfl))

set_option maxHeartbeats 4000000 in
set_option maxRecDepth 100000 in
theorem law_next {p : Program} {l : Launch} {e : Env} {s : State} {m : MethodId} {args : Array Value} {below : List Frame} {meth : Method} {c : Code} {Q : State → Prop} {A0 : Nat → Prop} {b L : Nat} {xs : Nat → Int32} {D : va_G} {cI cC cT cL : ClassId} {x : Nat} {A B : Nat → Nat} {ob : Nat} {M : Nat → Nat} {j h cells slots : Nat} {nc nt : Nat} {f g : Nat → Int32} {w : Nat → Int64} {nc2 nt2 : Nat} {f2 g2 : Nat → Int32} {th : Int32} {k : Nat → Int32} {H : Heap} {locs : List Loc} {ls : Array Slot} (EL : LE p l s m args c A0 b L xs D cI cC cT cL) (G : GS nc nt f g h) (hh : h < 2 ^ 28) (hcl : cells + 20 ≤ 601024) (hsl : slots + 200 ≤ 7293034) (hj : 4 * j + 4 ≤ L) (hL : L ≤ 2048) (kk : LK p l e s m args below meth c Q A0 b D cI cC cT cL x A B ob M j h cells slots) (hP : va_P D vwCl (LV cI cC cT cL x A B ob M nc nt f g w nc2 nt2 f2 g2 th nc nt f k g) H) (hD : va_D A0 (LV cI cC cT cL x A B ob M nc nt f g w nc2 nt2 f2 g2 th nc nt f k g)) (hS : va_S A0 s.heap H locs) (hl : lv_has ls 9 [(4, .int (nI (4 * j))), (3, .ref ob), (2, .ref (M 0)), (1, .ref x), (0, .ref b)]) : W p l e room_1 s m args below meth c H locs cells slots Q (F0 m 756 ls []) := by
  obtain ⟨hx, hb, hml, hown, hts, hK, hST, hX, hbl, hbA, hA, hl0⟩ := EL
  obtain ⟨u, hu9⟩ : ∃ u, u = xs (nI (4 * j) + 1).toNatClampNeg := ⟨_, rfl⟩
  obtain ⟨v, hv9⟩ : ∃ v, v = xs (nI (4 * j) + 2).toNatClampNeg := ⟨_, rfl⟩
  obtain ⟨z, hz9⟩ : ∃ z, z = xs (nI (4 * j) + 3).toNatClampNeg := ⟨_, rfl⟩
  have hin1 : vp_in (nI (4 * j) + 1) L := (nI_add (4 * j) 1).symm ▸ vp_in_nI (by omega) (by omega)
  have hin2 : vp_in (nI (4 * j) + 2) L := (nI_add (4 * j) 2).symm ▸ vp_in_nI (by omega) (by omega)
  have hin3 : vp_in (nI (4 * j) + 3) L := (nI_add (4 * j) 3).symm ▸ vp_in_nI (by omega) (by omega)
  refine lv_aload_n hx hb dL_law_756 rfl (lv_at hl 3 rfl) ?_
  refine c0_V (As := []) (rest := []) ⟨hx, hb, hml, hown, hts⟩ (mX3_next l D cI cC cT cL x (B 0) A nc nt f g G.2.1 G.2.2.1) (cwV 0 hts gL_law_X3_next rfl rfl rfl pX3_next ⟨Nat.le_of_ble_eq_true rfl, Nat.le_of_ble_eq_true rfl⟩) hK hP hD hS hA hST (J_y) 0 rfl rfl rfl rfl hl.1 rfl (Nat.le_of_ble_eq_true rfl) dL_law_757 ⟨(by show _ ≤ 601024; omega), (by show _ ≤ 7293034; omega)⟩ rfl (fun H locs hP hD hS => ?_)
  refine lv_aload_n hx hb dL_law_760 rfl (lv_at hl 2 rfl) ?_
  refine c0_V (As := []) (rest := [.int (nxt f nt)]) ⟨hx, hb, hml, hown, hts⟩ (mX4_next l D cI cC cT cL M th nc nt f k g G.2.1) (cwV 0 hts gL_law_X4_next rfl rfl rfl pX4_next ⟨Nat.le_of_ble_eq_true rfl, Nat.le_of_ble_eq_true rfl⟩) hK hP hD hS hA hST (J_m) 0 rfl rfl rfl rfl hl.1 rfl (Nat.le_of_ble_eq_true rfl) dL_law_761 ⟨(by show _ ≤ 601024; omega), (by show _ ≤ 7293034; omega)⟩ rfl (fun H locs hP hD hS => ?_)
  refine lv_icmp_eq (tgt := 1085) hx hb dL_law_764 (by decide) (fun c_764 => ?_) (fun c_764 => ?_)
  rotate_left
  · exact absurd rfl c_764
  obtain ⟨h9, hh9, G9⟩ := (⟨h, Nat.le_add_right _ _, G⟩ : ∃ h9, h9 ≤ h + 168 ∧ _)
  exact W.widen (by omega) (by omega) (kk _ _ _ _ _ _ _ _ _ _ _ h9 H locs ls G9 hh9 hP hD hS (lv_sub hl [0, 1, 2, 3, 4] rfl))

set_option maxHeartbeats 4000000 in
set_option maxRecDepth 100000 in
theorem law_pass {p : Program} {l : Launch} {e : Env} {s : State} {m : MethodId} {args : Array Value} {below : List Frame} {meth : Method} {c : Code} {Q : State → Prop} {A0 : Nat → Prop} {b L : Nat} {xs : Nat → Int32} {D : va_G} {cI cC cT cL : ClassId} {x : Nat} {A B : Nat → Nat} {ob : Nat} {M : Nat → Nat} {j h cells slots : Nat} {nc nt : Nat} {f g : Nat → Int32} {w : Nat → Int64} {nc2 nt2 : Nat} {f2 g2 : Nat → Int32} {th : Int32} {k : Nat → Int32} {H : Heap} {locs : List Loc} {ls : Array Slot} (EL : LE p l s m args c A0 b L xs D cI cC cT cL) (G : GS nc nt f g h) (hh : h < 2 ^ 28) (hcl : cells + 20 ≤ 601024) (hsl : slots + 200 ≤ 7293034) (hj : 4 * j + 4 ≤ L) (hL : L ≤ 2048) (kk : LK p l e s m args below meth c Q A0 b D cI cC cT cL x A B ob M j h cells slots) (hP : va_P D vwCl (LV cI cC cT cL x A B ob M nc nt f g w nc2 nt2 f2 g2 th nc nt f k g) H) (hD : va_D A0 (LV cI cC cT cL x A B ob M nc nt f g w nc2 nt2 f2 g2 th nc nt f k g)) (hS : va_S A0 s.heap H locs) (hl : lv_has ls 9 [(4, .int (nI (4 * j))), (3, .ref ob), (2, .ref (M 0)), (1, .ref x), (0, .ref b)]) : W p l e room_1 s m args below meth c H locs cells slots Q (F0 m 769 ls []) := by
  obtain ⟨hx, hb, hml, hown, hts, hK, hST, hX, hbl, hbA, hA, hl0⟩ := EL
  obtain ⟨u, hu9⟩ : ∃ u, u = xs (nI (4 * j) + 1).toNatClampNeg := ⟨_, rfl⟩
  obtain ⟨v, hv9⟩ : ∃ v, v = xs (nI (4 * j) + 2).toNatClampNeg := ⟨_, rfl⟩
  obtain ⟨z, hz9⟩ : ∃ z, z = xs (nI (4 * j) + 3).toNatClampNeg := ⟨_, rfl⟩
  have hin1 : vp_in (nI (4 * j) + 1) L := (nI_add (4 * j) 1).symm ▸ vp_in_nI (by omega) (by omega)
  have hin2 : vp_in (nI (4 * j) + 2) L := (nI_add (4 * j) 2).symm ▸ vp_in_nI (by omega) (by omega)
  have hin3 : vp_in (nI (4 * j) + 3) L := (nI_add (4 * j) 3).symm ▸ vp_in_nI (by omega) (by omega)
  refine lv_aload_n hx hb dL_law_769 rfl (lv_at hl 3 rfl) ?_
  refine lv_aload_n hx hb dL_law_770 rfl (lv_at hl 4 rfl) ?_
  refine lv_iload hx hb dL_law_771 (lv_at hl 0 rfl) ?_
  refine lv_iconst (v := 1) hx hb dL_law_773 (by decide) ?_
  refine lv_iadd hx hb dL_law_774 ?_
  refine va_sld hx hb hX hbl hbA hS hin1 dL_law_775 ?_
  rw [← hu9]
  refine lv_aload_n hx hb dL_law_776 rfl (lv_at hl 1 rfl) ?_
  refine c0_SW (As := [.ref x, .int u, .ref ob]) (rest := []) ⟨hx, hb, hml, hown, hts⟩ (wpass l D cI cC cT cL hl0 x (B 0) A nc nt f g ob w u G.1 G.2.1 G.2.2.1 G.2.2.2.1 h (by omega) G.2.2.2.2) (vx_cwSW 3 hts gL_law_L_pass rfl rfl rfl pL_pass ⟨Nat.le_of_ble_eq_true rfl, Nat.le_of_ble_eq_true rfl⟩) hK hP hD hS hA hST (J_o) rfl hl.1 rfl (Nat.le_of_ble_eq_true rfl) dL_law_777 ⟨(by show _ ≤ 601024; omega), (by show _ ≤ 7293034; omega)⟩ rfl (fun H locs hP hD hS => ?_)
  refine lv_istore (lv' := [(5, .int (nI (kPass u))), (4, .int (nI (4 * j))), (3, .ref ob), (2, .ref (M 0)), (1, .ref x), (0, .ref b)]) hx hb dL_law_780 hl (by decide) rfl (fun ls hl => ?_)
  refine lv_aload_n hx hb dL_law_782 rfl (lv_at hl 3 rfl) ?_
  refine lv_aload_n hx hb dL_law_783 rfl (lv_at hl 5 rfl) ?_
  refine lv_iload hx hb dL_law_784 (lv_at hl 1 rfl) ?_
  refine lv_iconst (v := 1) hx hb dL_law_786 (by decide) ?_
  refine lv_iadd hx hb dL_law_787 ?_
  refine va_sld hx hb hX hbl hbA hS hin1 dL_law_788 ?_
  rw [← hu9]
  refine c0_V (As := [.int u]) (rest := []) ⟨hx, hb, hml, hown, hts⟩ (mX4_pass l D cI cC cT cL M th nc nt f k g u G.1 G.2.1 G.2.2.1 G.2.2.2.1 h (by omega) G.2.2.2.2) (cwV 1 hts gL_law_X4_pass rfl rfl rfl pX4_pass ⟨Nat.le_of_ble_eq_true rfl, Nat.le_of_ble_eq_true rfl⟩) hK hP hD hS hA hST (J_m) 0 rfl rfl rfl rfl hl.1 rfl (Nat.le_of_ble_eq_true rfl) dL_law_789 ⟨(by show _ ≤ 601024; omega), (by show _ ≤ 7293034; omega)⟩ rfl (fun H locs hP hD hS => ?_)
  refine lv_istore (lv' := [(6, .int (sel (kPass u) (rep (hourF nc nt g) u.toNatClampNeg f 5 - f 5) 0)), (5, .int (nI (kPass u))), (4, .int (nI (4 * j))), (3, .ref ob), (2, .ref (M 0)), (1, .ref x), (0, .ref b)]) hx hb dL_law_792 hl (by decide) rfl (fun ls hl => ?_)
  refine lv_aload_n hx hb dL_law_794 rfl (lv_at hl 4 rfl) ?_
  refine c0_V (As := []) (rest := []) ⟨hx, hb, hml, hown, hts⟩ (mX4_thrown l D cI cC cT cL M (nI (kPass u)) nc nt (sel (kPass u) (rep (hourF nc nt g) u.toNatClampNeg f) f) k g) (cwV 0 hts gL_law_X4_thrown rfl rfl rfl pX4_thrown ⟨Nat.le_of_ble_eq_true rfl, Nat.le_of_ble_eq_true rfl⟩) hK hP hD hS hA hST (J_m) 0 rfl rfl rfl rfl hl.1 rfl (Nat.le_of_ble_eq_true rfl) dL_law_795 ⟨(by show _ ≤ 601024; omega), (by show _ ≤ 7293034; omega)⟩ rfl (fun H locs hP hD hS => ?_)
  refine lv_iload hx hb dL_law_798 (lv_at hl 1 rfl) ?_
  refine lv_icmp_eq (tgt := 805) hx hb dL_law_800 (by decide) (fun c_800 => ?_) (fun c_800 => ?_)
  rotate_left
  · exact absurd rfl c_800
  refine lv_iload hx hb dL_law_805 (lv_at hl 1 rfl) ?_
  refine lv_if_ne (tgt := 822) hx hb dL_law_807 (by decide) (fun c_807 => ?_) (fun c_807 => ?_)
  ·
    refine lv_goto (tgt := 1085) hx hb dL_law_822 (by decide) ?_
    obtain ⟨h9, hh9, G9⟩ := g_pass u G (by omega)
    exact W.widen (by omega) (by omega) (kk _ _ _ _ _ _ _ _ _ _ _ h9 H locs ls G9 hh9 hP hD hS (lv_sub hl [2, 3, 4, 5, 6] rfl))
  ·
    have hK9 := K_0 (l_pass u) c_807
    refine lv_aload_n hx hb dL_law_810 rfl (lv_at hl 3 rfl) ?_
    refine lv_iconst (v := 0) hx hb dL_law_811 (by decide) ?_
    refine w_lld hx hb hK hP 16 3 rfl rfl 0 rfl (by decide) (by decide) (v := (sel (kPass u) (vp_updL w 0 ((rep (hourF nc nt g) u.toNatClampNeg f 5 - f 5).toInt64)) w) 0) rfl dL_law_812 ?_
    refine lv_iload hx hb dL_law_813 (lv_at hl 0 rfl) ?_
    refine lv_i2l hx hb dL_law_815 rfl ?_
    refine W.lcmp hx hb dL_law_816 ?_
    refine lv_if_eq (tgt := 822) hx hb dL_law_817 (by decide) (fun c_817 => ?_) (fun c_817 => ?_)
    rotate_left
    · exact absurd (by rw [hK9, sel_0, sel_0, updL_0]; exact lg_self _) c_817
    refine lv_goto (tgt := 1085) hx hb dL_law_822 (by decide) ?_
    obtain ⟨h9, hh9, G9⟩ := g_pass u G (by omega)
    exact W.widen (by omega) (by omega) (kk _ _ _ _ _ _ _ _ _ _ _ h9 H locs ls G9 hh9 hP hD hS (lv_sub hl [2, 3, 4, 5, 6] rfl))
