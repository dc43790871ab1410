theorem nxt_go {f : Nat → Int32} {nt : Nat} (hnt : nt ≤ 6) (h : ¬ nxt f nt < 0) : ∃ k, k < nt ∧ nxt f nt = nI k ∧ 0 < f (19 + 3 * k) := by
  rcases nxt_in f nt with q | q
  · rw [q] at h; exact absurd (by decide) h
  · exact q
theorem nxt_m1 {f : Nat → Int32} {nt : Nat} (hnt : nt ≤ 6) (h : nxt f nt < 0) : nxt f nt = -1 := by
  rcases nxt_in f nt with q | ⟨k, hk, e, -⟩
  · exact q
  · rw [e] at h; exact absurd h (nI_pos (by omega))
theorem sell_go {f : Nat → Int32} {nt k : Nat} (hnt : nt ≤ 6) (hk : k < nt) (e : nxt f nt = nI k) (h4 : ¬ f 4 = 0) : upd (set3 (upd f 4 (f 4 - 1)) (19 + 3 * k) (upd f 4 (f 4 - 1) (19 + 3 * k) - 1) (upd f 4 (f 4 - 1) (20 + 3 * k)) (upd f 4 (f 4 - 1) (21 + 3 * k) + 1)) 5 (upd f 4 (f 4 - 1) 5 + payF (upd f 4 (f 4 - 1) (20 + 3 * k))) = sell1 nt f := by
  rw [sell1, if_neg (by rw [e]; exact fun q => q.elim (nI_ne_m1 (by omega)) h4), e, nI_clamp (by omega), sellT, up_o (k := 4) (j := 19 + 3 * k) (by omega), up_o (k := 4) (j := 20 + 3 * k) (by omega), up_o (k := 4) (j := 21 + 3 * k) (by omega), up_o (k := 4) (j := 5) (by omega)]

set_option maxHeartbeats 4000000 in
set_option maxRecDepth 100000 in
theorem mX0_serveOne (l : Launch) (D : va_G) (cI cC cT cL : ClassId) (A : Nat → Nat) (nc nt : Nat) (f g : Nat → Int32) (hnt : nt ≤ 6) (hsoft : ∀ t, t < nt → f (20 + 3 * t) ≤ 100) : M0 l yX0_serveOne wsX0_serveOne ({ frames := 1, cells := 0, slots := 0, locals := 23 } : Room) D (TY cI cC cT cL) [.ref (A 0)] (CW cI cC cT A nc nt f g) (none) (CW cI cC cT A nc nt (sell1 nt f) g) 0 0 := by
  refine M0_of (cc := cX0_serveOne) (maxL := 2) (ret := none) (by decide +kernel) rfl (Nat.le_of_ble_eq_true rfl) ?_
  intro p e s m args below meth c A0 B ls hl
  obtain ⟨hx, hb, hml, hr, hown, hts, hlocks, hK, hP, hD, hA, hST, hnm⟩ := B
  have hown : s.vm.findClass RX0 = some m.cls := hown
  have hS : va_S A0 s.heap s.heap [] := va_S.rf
  have hl : lv_has ls 2 [(0, .ref (A 0))] := hl
  refine lv_aload_n hx hb dX0_serveOne_0 rfl (lv_at hl 0 rfl) ?_
  refine c0_V (As := []) (rest := []) ⟨hx, hb, hml, hown, hts⟩ (mX0_sellingTub l D cI cC cT cL A nc nt f g hnt hsoft) (cwV 0 hts gX0_serveOne_X0_sellingTub rfl rfl rfl pX0_sellingTub ⟨Nat.le_of_ble_eq_true rfl, Nat.le_of_ble_eq_true rfl⟩) hK hP hD hS hA hST (Jn_all _ _ rfl) 0 rfl rfl rfl rfl hl.1 rfl (Nat.le_of_ble_eq_true rfl) dX0_serveOne_1 ⟨Nat.le_of_ble_eq_true rfl, Nat.le_of_ble_eq_true rfl⟩ rfl (fun H locs hP hD hS => ?_)
  refine lv_istore_n (lv' := [(1, .int (nxt f nt)), (0, .ref (A 0))]) hx hb dX0_serveOne_4 rfl hl (by decide) rfl (fun ls hl => ?_)
  refine lv_iload_n hx hb dX0_serveOne_5 rfl (lv_at hl 0 rfl) ?_
  refine lv_if_lt (tgt := 18) hx hb dX0_serveOne_6 (by decide) (fun c_6 => ?_) (fun c_6 => ?_)
  ·
    refine lv_aload_n hx hb dX0_serveOne_18 rfl (lv_at hl 1 rfl) ?_
    refine lv_dup hx hb dX0_serveOne_19 rfl ?_
    refine w_get hx hb hts iX0_serveOne_X0 hown hK hP 0 rfl rfl 8 (by decide) fX0_serveOne_59 rfl rfl dX0_serveOne_20 ?_
    refine lv_iconst (v := 1) hx hb dX0_serveOne_23 (by decide) ?_
    refine lv_iadd hx hb dX0_serveOne_24 ?_
    refine w_put (C := RX0) hx hb hts iX0_serveOne_X0 tyX0_ok nmX0 hown hK hP hD hS 0 rfl rfl 8 (by decide) fX0_serveOne_59 rfl rfl rfl rfl (Nat.le_of_ble_eq_true rfl) (ws' := CW cI cC cT A nc nt (upd f 6 ((f 6) + 1)) g) rfl dX0_serveOne_25 (fun H locs hP hD hS => ?_)
    exact e0_v hx hb hr hlocks (P_eq (by rw [sell1, if_pos (Or.inl (nxt_m1 hnt c_6))]) hP) hS dX0_serveOne_28 (by decide) (by decide) (rfl)
  ·
    refine lv_aload_n hx hb dX0_serveOne_9 rfl (lv_at hl 1 rfl) ?_
    refine w_get hx hb hts iX0_serveOne_X0 hown hK hP 0 rfl rfl 0 (by decide) fX0_serveOne_13 rfl rfl dX0_serveOne_10 ?_
    refine lv_iconst (v := 3) hx hb dX0_serveOne_13 (by decide) ?_
    refine w_ild hx hb hK hP 1 0 rfl rfl 3 rfl (by decide) (by decide) (v := f 4) rfl dX0_serveOne_14 ?_
    refine lv_if_ne (tgt := 29) hx hb dX0_serveOne_15 (by decide) (fun c_15 => ?_) (fun c_15 => ?_)
    ·
      obtain ⟨k, hk, ek, hs0⟩ := nxt_go hnt c_6
      refine lv_aload_n hx hb dX0_serveOne_29 rfl (lv_at hl 1 rfl) ?_
      refine w_get hx hb hts iX0_serveOne_X0 hown hK hP 0 rfl rfl 0 (by decide) fX0_serveOne_13 rfl rfl dX0_serveOne_30 ?_
      refine lv_iconst (v := 3) hx hb dX0_serveOne_33 (by decide) ?_
      refine lv_dup2_11 hx hb dX0_serveOne_34 rfl rfl ?_
      refine w_ild hx hb hK hP 1 0 rfl rfl 3 rfl (by decide) (by decide) (v := f 4) rfl dX0_serveOne_35 ?_
      refine lv_iconst (v := 1) hx hb dX0_serveOne_36 (by decide) ?_
      refine lv_isub hx hb dX0_serveOne_37 ?_
      refine w_ist hx hb hK hP hD hS 1 0 rfl rfl 3 rfl (by decide) (by decide) (ws' := CW cI cC cT A nc nt (upd f 4 ((f 4) - 1)) g) (cw_stock 3 (by decide) _) dX0_serveOne_38 (fun H locs hP hD hS => ?_)
      refine lv_aload_n hx hb dX0_serveOne_39 rfl (lv_at hl 1 rfl) ?_
      refine lv_dup hx hb dX0_serveOne_40 rfl ?_
      refine w_get hx hb hts iX0_serveOne_X0 hown hK hP 0 rfl rfl 7 (by decide) fX0_serveOne_49 rfl rfl dX0_serveOne_41 ?_
      refine lv_aload_n hx hb dX0_serveOne_44 rfl (lv_at hl 1 rfl) ?_
      refine w_get hx hb hts iX0_serveOne_X0 hown hK hP 0 rfl rfl 3 (by decide) fX0_serveOne_29 rfl rfl dX0_serveOne_45 ?_
      refine lv_iload_n hx hb dX0_serveOne_48 rfl (lv_at hl 0 rfl) ?_
      refine w_qld hx hb hK hP 4 2 rfl rfl k ek (by omega) (by decide) (v := A (9 + k)) rfl dX0_serveOne_49 ?_
      refine c0_V (As := []) (rest := [.int ((upd f 4 ((f 4) - 1)) 5), .ref (A 0)]) ⟨hx, hb, hml, hown, hts⟩ (mX2_sellScoop l D cI cC cT cL (A (9 + k)) ((upd f 4 ((f 4) - 1)) (19 + 3 * k)) ((upd f 4 ((f 4) - 1)) (20 + 3 * k)) ((upd f 4 ((f 4) - 1)) (21 + 3 * k))) (cwV 0 hts gX0_serveOne_X2_sellScoop rfl rfl rfl pX2_sellScoop ⟨Nat.le_of_ble_eq_true rfl, Nat.le_of_ble_eq_true rfl⟩) hK hP hD hS hA hST (Jn_tub k (by omega) _ _ _) 0 rfl rfl rfl rfl hl.1 rfl (Nat.le_of_ble_eq_true rfl) dX0_serveOne_50 ⟨Nat.le_of_ble_eq_true rfl, Nat.le_of_ble_eq_true rfl⟩ rfl (fun H locs hP hD hS => ?_)
      refine lv_iadd hx hb dX0_serveOne_53 ?_
      refine w_put (C := RX0) hx hb hts iX0_serveOne_X0 tyX0_ok nmX0 hown hK hP hD hS 0 rfl rfl 7 (by decide) fX0_serveOne_49 rfl rfl rfl rfl (Nat.le_of_ble_eq_true rfl) (ws' := CW cI cC cT A nc nt (upd (set3 (upd f 4 ((f 4) - 1)) (19 + 3 * k) (((upd f 4 ((f 4) - 1)) (19 + 3 * k)) - 1) ((upd f 4 ((f 4) - 1)) (20 + 3 * k)) (((upd f 4 ((f 4) - 1)) (21 + 3 * k)) + 1)) 5 (((upd f 4 ((f 4) - 1)) 5) + (payF ((upd f 4 ((f 4) - 1)) (20 + 3 * k))))) g) rfl dX0_serveOne_54 (fun H locs hP hD hS => ?_)
      exact e0_v hx hb hr hlocks (P_eq (by rw [← sell_go hnt hk ek c_15]) hP) hS dX0_serveOne_57 (by decide) (by decide) (rfl)
    ·
      refine lv_aload_n hx hb dX0_serveOne_18 rfl (lv_at hl 1 rfl) ?_
      refine lv_dup hx hb dX0_serveOne_19 rfl ?_
      refine w_get hx hb hts iX0_serveOne_X0 hown hK hP 0 rfl rfl 8 (by decide) fX0_serveOne_59 rfl rfl dX0_serveOne_20 ?_
      refine lv_iconst (v := 1) hx hb dX0_serveOne_23 (by decide) ?_
      refine lv_iadd hx hb dX0_serveOne_24 ?_
      refine w_put (C := RX0) hx hb hts iX0_serveOne_X0 tyX0_ok nmX0 hown hK hP hD hS 0 rfl rfl 8 (by decide) fX0_serveOne_59 rfl rfl rfl rfl (Nat.le_of_ble_eq_true rfl) (ws' := CW cI cC cT A nc nt (upd f 6 ((f 6) + 1)) g) rfl dX0_serveOne_25 (fun H locs hP hD hS => ?_)
      exact e0_v hx hb hr hlocks (P_eq (by rw [sell1, if_pos (Or.inr c_15)]) hP) hS dX0_serveOne_28 (by decide) (by decide) (rfl)

set_option maxHeartbeats 4000000 in
set_option maxRecDepth 100000 in
theorem mX0_servePeople (l : Launch) (D : va_G) (cI cC cT cL : ClassId) (A : Nat → Nat) (nc nt : Nat) (f g : Nat → Int32) (hnt : nt ≤ 6) (hI : Inv f) (q : Nat) (hq : q ≤ 40) : M0 l yX0_servePeople wsX0_servePeople ({ frames := 2, cells := 0, slots := 0, locals := 44 } : Room) D (TY cI cC cT cL) [.ref (A 0), .int (nI q)] (CW cI cC cT A nc nt f g) (none) (CW cI cC cT A nc nt (serveF nt (nI q) f) g) 0 0 := by
  refine M0_of (cc := cX0_servePeople) (maxL := 5) (ret := none) (by decide +kernel) rfl (Nat.le_of_ble_eq_true rfl) ?_
  intro p e s m args below meth c A0 B ls hl
  obtain ⟨hx, hb, hml, hr, hown, hts, hlocks, hK, hP, hD, hA, hST, hnm⟩ := B
  have hown : s.vm.findClass RX0 = some m.cls := hown
  have hS : va_S A0 s.heap s.heap [] := va_S.rf
  have hl : lv_has ls 5 [(0, .ref (A 0)), (1, .int (nI q))] := hl
  refine lv_aload_n hx hb dX0_servePeople_0 rfl (lv_at hl 0 rfl) ?_
  refine w_get hx hb hts iX0_servePeople_X0 hown hK hP 0 rfl rfl 6 (by decide) fX0_servePeople_41 rfl rfl dX0_servePeople_1 ?_
  refine lv_bipush (v := 24) hx hb dX0_servePeople_4 (by decide) ?_
  refine lv_irem hx hb dX0_servePeople_6 (by decide) ?_
  refine lv_istore_n (lv' := [(2, .int ((f 0) - (f 0) / 24 * 24)), (0, .ref (A 0)), (1, .int (nI q))]) hx hb dX0_servePeople_7 rfl hl (by decide) rfl (fun ls hl => ?_)
  refine lv_iload_n hx hb dX0_servePeople_8 rfl (lv_at hl 0 rfl) ?_
  refine lv_bipush (v := 10) hx hb dX0_servePeople_9 (by decide) ?_
  refine lv_icmp_lt (tgt := 20) hx hb dX0_servePeople_11 (by decide) (fun c_11 => ?_) (fun c_11 => ?_)
  ·
    exact e0_v hx hb hr hlocks (P_eq (by rw [serveF, if_neg (fun h => absurd h.1 (Int32.not_le.mpr c_11))]) hP) hS dX0_servePeople_20 (by decide) (by decide) (rfl)
  ·
    refine lv_iload_n hx hb dX0_servePeople_14 rfl (lv_at hl 0 rfl) ?_
    refine lv_bipush (v := 18) hx hb dX0_servePeople_15 (by decide) ?_
    refine lv_icmp_le (tgt := 21) hx hb dX0_servePeople_17 (by decide) (fun c_17 => ?_) (fun c_17 => ?_)
    ·
      refine lv_iload_n hx hb dX0_servePeople_21 rfl (lv_at hl 2 rfl) ?_
      refine lv_iconst (v := 4) hx hb dX0_servePeople_22 (by decide) ?_
      refine lv_idiv hx hb dX0_servePeople_23 (by decide) ?_
      rw [show nI q / 4 = nI (q / 4) from dv (d := 4) (by omega) (by decide) (by decide)]
      refine lv_istore_n (lv' := [(3, .int (nI (q / 4))), (2, .int ((f 0) - (f 0) / 24 * 24)), (0, .ref (A 0)), (1, .int (nI q))]) hx hb dX0_servePeople_24 rfl hl (by decide) rfl (fun ls hl => ?_)
      refine lv_iconst (v := 0) hx hb dX0_servePeople_25 (by decide) ?_
      refine lv_istore (lv' := [(4, .int 0), (3, .int (nI (q / 4))), (2, .int ((f 0) - (f 0) / 24 * 24)), (0, .ref (A 0)), (1, .int (nI q))]) hx hb dX0_servePeople_26 hl (by decide) rfl (fun ls hl => ?_)
      have lp0 : ∀ (n j : Nat), j + n = q / 4 → ∀ (H : Heap) (locs : List Loc), va_P D vwCl (CW cI cC cT A nc nt (rep (sell1 nt) j f) g) H → va_D A0 (CW cI cC cT A nc nt (rep (sell1 nt) j f) g) → va_S A0 s.heap H locs → ∀ ls, lv_has ls 5 [(4, .int (nI j)), (3, .int (nI (q / 4))), (2, .int (f 0 - f 0 / 24 * 24)), (1, .int (nI q)), (0, .ref (A 0))] → W p l e ({ frames := 2, cells := 0, slots := 0, locals := 44 } : Room) s m args below meth c H locs 0 0 (Q0 below D (none) (CW cI cC cT A nc nt (serveF nt (nI q) f) g) A0 args s 0 0) (F0 m 28 ls []) := by
        intro n
        induction n with
        | zero =>
          intro j hj   H locs hP hD hS ls hl
          have hje : q / 4 = j := by omega
          subst hje
          refine lv_iload hx hb dX0_servePeople_28 (lv_at hl 0 rfl) ?_
          refine lv_iload_n hx hb dX0_servePeople_30 rfl (lv_at hl 1 rfl) ?_
          refine lv_icmp_ge (tgt := 44) hx hb dX0_servePeople_31 (by decide) (fun c_31 => ?_) (fun c_31 => ?_)
          rotate_left
          · exact absurd (Int32.le_refl _) c_31
          exact e0_v hx hb hr hlocks (P_eq (by rw [serveF, if_pos ⟨Int32.not_lt.mp c_11, c_17⟩, show nI q / 4 = nI (q / 4) from dv (d := 4) (by omega) (by decide) (by decide), nI_clamp (by omega)]) hP) hS dX0_servePeople_44 (by decide) (by decide) (rfl)
        | succ n ih =>
          intro j hj   H locs hP hD hS ls hl
          refine lv_iload hx hb dX0_servePeople_28 (lv_at hl 0 rfl) ?_
          refine lv_iload_n hx hb dX0_servePeople_30 rfl (lv_at hl 1 rfl) ?_
          refine lv_icmp_ge (tgt := 44) hx hb dX0_servePeople_31 (by decide) (fun c_31 => ?_) (fun c_31 => ?_)
          · exact absurd c_31 (nI_ge (by omega) (by omega))
          refine lv_aload_n hx hb dX0_servePeople_34 rfl (lv_at hl 4 rfl) ?_
          refine c0_V (As := []) (rest := []) ⟨hx, hb, hml, hown, hts⟩ (mX0_serveOne l D cI cC cT cL A nc nt (rep (sell1 nt) j f) g hnt (soft_ok (Inv.rep_ (fun f h => h.sell hnt) hI j) hnt)) (cwV 0 hts gX0_servePeople_X0_serveOne rfl rfl rfl pX0_serveOne ⟨Nat.le_of_ble_eq_true rfl, Nat.le_of_ble_eq_true rfl⟩) hK hP hD hS hA hST (Jn_all _ _ rfl) 0 rfl rfl rfl rfl hl.1 rfl (Nat.le_of_ble_eq_true rfl) dX0_servePeople_35 ⟨Nat.le_of_ble_eq_true rfl, Nat.le_of_ble_eq_true rfl⟩ rfl (fun H locs hP hD hS => ?_)
          refine lv_iinc (v := nI (j + 1)) (lv' := [(4, .int (nI (j + 1))), (3, .int (nI (q / 4))), (2, .int (f 0 - f 0 / 24 * 24)), (1, .int (nI q)), (0, .ref (A 0))]) hx hb dX0_servePeople_38 hl (k := 0) rfl (nI_succ _).symm (by decide) rfl (fun ls hl => ?_)
          refine lv_goto (tgt := 28) hx hb dX0_servePeople_41 (by decide) ?_
          exact ih (j + 1) (by omega) _ _ hP hD hS _ (lv_sub hl [0, 1, 2, 3, 4] rfl)
      exact lp0 (q / 4) 0 (by omega) _ _ hP hD hS _ (lv_sub hl [0, 1, 2, 4, 3] rfl)
    ·
      exact e0_v hx hb hr hlocks (P_eq (by rw [serveF, if_neg (fun h => absurd h.2 c_17)]) hP) hS dX0_servePeople_20 (by decide) (by decide) (rfl)

set_option maxHeartbeats 4000000 in
set_option maxRecDepth 100000 in
theorem mX0_runHour (l : Launch) (D : va_G) (cI cC cT cL : ClassId) (A : Nat → Nat) (nc nt : Nat) (f g : Nat → Int32) (hnc : nc ≤ 4) (hnt : nt ≤ 6) (hI : Inv f) (hg : Gd g) (h : Nat) (hh : h < 2 ^ 30) (h0 : f 0 = nI h) : M0 l yX0_runHour wsX0_runHour ({ frames := 3, cells := 0, slots := 0, locals := 68 } : Room) D (TY cI cC cT cL) [.ref (A 0)] (CW cI cC cT A nc nt f g) (none) (CW cI cC cT A nc nt (hourF nc nt g f) g) 0 0 := by
  refine M0_of (cc := cX0_runHour) (maxL := 3) (ret := none) (by decide +kernel) rfl (Nat.le_of_ble_eq_true rfl) ?_
  intro p e s m args below meth c A0 B ls hl
  obtain ⟨hx, hb, hml, hr, hown, hts, hlocks, hK, hP, hD, hA, hST, hnm⟩ := B
  have hown : s.vm.findClass RX0 = some m.cls := hown
  have hS : va_S A0 s.heap s.heap [] := va_S.rf
  have hl : lv_has ls 3 [(0, .ref (A 0))] := hl
  refine lv_aload_n hx hb dX0_runHour_0 rfl (lv_at hl 0 rfl) ?_
  refine lv_aload_n hx hb dX0_runHour_1 rfl (lv_at hl 0 rfl) ?_
  refine w_get hx hb hts iX0_runHour_X0 hown hK hP 0 rfl rfl 6 (by decide) fX0_runHour_41 rfl rfl dX0_runHour_2 ?_
  refine c0_V (As := [.int (f 0)]) (rest := []) ⟨hx, hb, hml, hown, hts⟩ (mX0_heatAt l D cI cC cT cL A nc nt f g (f 0) h (by omega) h0) (cwV 1 hts gX0_runHour_X0_heatAt rfl rfl rfl pX0_heatAt ⟨Nat.le_of_ble_eq_true rfl, Nat.le_of_ble_eq_true rfl⟩) hK hP hD hS hA hST (Jn_all _ _ rfl) 0 rfl rfl rfl rfl hl.1 rfl (Nat.le_of_ble_eq_true rfl) dX0_runHour_5 ⟨Nat.le_of_ble_eq_true rfl, Nat.le_of_ble_eq_true rfl⟩ rfl (fun H locs hP hD hS => ?_)
  obtain ⟨q, hq, eq⟩ := of_bd (n := 40) (by decide) (hg (h / 24 % 7) (Nat.mod_lt _ (by decide)))
  rw [eq]
  have hhot : hotOf f g = nI q := by rw [hotOf, hrN, h0, nI_clamp (by omega)]; exact eq
  refine lv_istore_n (lv' := [(1, .int (nI q)), (0, .ref (A 0))]) hx hb dX0_runHour_8 rfl hl (by decide) rfl (fun ls hl => ?_)
  refine lv_iconst (v := 0) hx hb dX0_runHour_9 (by decide) ?_
  refine lv_istore_n (lv' := [(2, .int 0), (1, .int (nI q)), (0, .ref (A 0))]) hx hb dX0_runHour_10 rfl hl (by decide) rfl (fun ls hl => ?_)
  have lp0 : ∀ (n j : Nat), j + n = nc → ∀ (H : Heap) (locs : List Loc), va_P D vwCl (CW cI cC cT A nc nt (fo (turn1 (nI q)) j f) g) H → va_D A0 (CW cI cC cT A nc nt (fo (turn1 (nI q)) j f) g) → va_S A0 s.heap H locs → ∀ ls, lv_has ls 3 [(2, .int (nI j)), (1, .int (nI q)), (0, .ref (A 0))] → W p l e ({ frames := 3, cells := 0, slots := 0, locals := 68 } : Room) s m args below meth c H locs 0 0 (Q0 below D (none) (CW cI cC cT A nc nt (hourF nc nt g f) g) A0 args s 0 0) (F0 m 11 ls []) := by
    intro n
    induction n with
    | zero =>
      intro j hj   H locs hP hD hS ls hl
      have hje : nc = j := by omega
      subst hje
      refine lv_iload_n hx hb dX0_runHour_11 rfl (lv_at hl 0 rfl) ?_
      refine lv_aload_n hx hb dX0_runHour_12 rfl (lv_at hl 2 rfl) ?_
      refine w_get hx hb hts iX0_runHour_X0 hown hK hP 0 rfl rfl 4 (by decide) fX0_runHour_83 rfl rfl dX0_runHour_13 ?_
      refine lv_icmp_ge (tgt := 35) hx hb dX0_runHour_16 (by decide) (fun c_16 => ?_) (fun c_16 => ?_)
      rotate_left
      · exact absurd (Int32.le_refl _) c_16
      refine lv_iconst (v := 0) hx hb dX0_runHour_35 (by decide) ?_
      refine lv_istore_n (lv' := [(2, .int 0), (1, .int (nI q)), (0, .ref (A 0))]) hx hb dX0_runHour_36 rfl hl (by decide) rfl (fun ls hl => ?_)
      have lp1 : ∀ (n j : Nat), j + n = nt → ∀ (H : Heap) (locs : List Loc), va_P D vwCl (CW cI cC cT A nc nt (fo (stand1 (nI q)) j (fo (turn1 (nI q)) nc f)) g) H → va_D A0 (CW cI cC cT A nc nt (fo (stand1 (nI q)) j (fo (turn1 (nI q)) nc f)) g) → va_S A0 s.heap H locs → ∀ ls, lv_has ls 3 [(2, .int (nI j)), (1, .int (nI q)), (0, .ref (A 0))] → W p l e ({ frames := 3, cells := 0, slots := 0, locals := 68 } : Room) s m args below meth c H locs 0 0 (Q0 below D (none) (CW cI cC cT A nc nt (hourF nc nt g f) g) A0 args s 0 0) (F0 m 37 ls []) := by
        intro n
        induction n with
        | zero =>
          intro j hj   H locs hP hD hS ls hl
          have hje : nt = j := by omega
          subst hje
          refine lv_iload_n hx hb dX0_runHour_37 rfl (lv_at hl 0 rfl) ?_
          refine lv_aload_n hx hb dX0_runHour_38 rfl (lv_at hl 2 rfl) ?_
          refine w_get hx hb hts iX0_runHour_X0 hown hK hP 0 rfl rfl 5 (by decide) fX0_runHour_68 rfl rfl dX0_runHour_39 ?_
          refine lv_icmp_ge (tgt := 67) hx hb dX0_runHour_42 (by decide) (fun c_42 => ?_) (fun c_42 => ?_)
          rotate_left
          · exact absurd (Int32.le_refl _) c_42
          have hI2 : Inv (fo (stand1 (nI q)) nt (fo (turn1 (nI q)) nc f)) := Inv.fo_ (N := 6) (fun f i hi h => h.stand (bd_n (n := 40) hq (by decide)) hi) (Inv.fo_ (N := 4) (fun f i hi h => h.turn (bd_n (n := 40) hq (by decide)) hi) hI nc hnc) nt hnt
          refine lv_aload_n hx hb dX0_runHour_67 rfl (lv_at hl 2 rfl) ?_
          refine lv_iload_n hx hb dX0_runHour_68 rfl (lv_at hl 1 rfl) ?_
          refine c0_V (As := [.int (nI q)]) (rest := []) ⟨hx, hb, hml, hown, hts⟩ (mX0_servePeople l D cI cC cT cL A nc nt (fo (stand1 (nI q)) nt (fo (turn1 (nI q)) nc f)) g hnt hI2 q hq) (cwV 1 hts gX0_runHour_X0_servePeople rfl rfl rfl pX0_servePeople ⟨Nat.le_of_ble_eq_true rfl, Nat.le_of_ble_eq_true rfl⟩) hK hP hD hS hA hST (Jn_all _ _ rfl) 0 rfl rfl rfl rfl hl.1 rfl (Nat.le_of_ble_eq_true rfl) dX0_runHour_69 ⟨Nat.le_of_ble_eq_true rfl, Nat.le_of_ble_eq_true rfl⟩ rfl (fun H locs hP hD hS => ?_)
          refine lv_aload_n hx hb dX0_runHour_72 rfl (lv_at hl 2 rfl) ?_
          refine w_get hx hb hts iX0_runHour_X0 hown hK hP 0 rfl rfl 0 (by decide) fX0_runHour_13 rfl rfl dX0_runHour_73 ?_
          refine lv_iconst (v := 0) hx hb dX0_runHour_76 (by decide) ?_
          refine lv_aload_n hx hb dX0_runHour_77 rfl (lv_at hl 2 rfl) ?_
          refine w_get hx hb hts iX0_runHour_X0 hown hK hP 0 rfl rfl 0 (by decide) fX0_runHour_13 rfl rfl dX0_runHour_78 ?_
          refine lv_iconst (v := 0) hx hb dX0_runHour_81 (by decide) ?_
          refine w_ild hx hb hK hP 1 0 rfl rfl 0 rfl (by decide) (by decide) (v := (serveF nt (nI q) (fo (stand1 (nI q)) nt (fo (turn1 (nI q)) nc f))) 1) rfl dX0_runHour_82 ?_
          refine lv_aload_n hx hb dX0_runHour_83 rfl (lv_at hl 2 rfl) ?_
          refine w_get hx hb hts iX0_runHour_X0 hown hK hP 0 rfl rfl 6 (by decide) fX0_runHour_41 rfl rfl dX0_runHour_84 ?_
          refine lv_iload_n hx hb dX0_runHour_87 rfl (lv_at hl 1 rfl) ?_
          refine c0_SN (As := [.int ((serveF nt (nI q) (fo (stand1 (nI q)) nt (fo (turn1 (nI q)) nc f))) 1), .int ((serveF nt (nI q) (fo (stand1 (nI q)) nt (fo (turn1 (nI q)) nc f))) 0), .int (nI q)]) (rest := [.int 0, .ref (A 1)]) ⟨hx, hb, hml, hown, hts⟩ (mX3_iceAfterHour l D cI cC cT cL ((serveF nt (nI q) (fo (stand1 (nI q)) nt (fo (turn1 (nI q)) nc f))) 1) ((serveF nt (nI q) (fo (stand1 (nI q)) nt (fo (turn1 (nI q)) nc f))) 0) (nI q)) ⟨va_cnB 3 hts gX0_runHour_X3_iceAfterHour_n97 rfl rfl rfl (hST.2.1 _ (List.mem_of_getElem? (i := 2) rfl)) (hts _ inX0_runHour_X3) pX3_iceAfterHour ⟨Nat.le_of_ble_eq_true rfl, Nat.le_of_ble_eq_true rfl⟩, hts _ stX0_runHour_X3_iceAfterHour, trivial⟩ hK hP hD hS hA hST (Jn_nil _) rfl hl.1 rfl (Nat.le_of_ble_eq_true rfl) dX0_runHour_88 ⟨Nat.le_of_ble_eq_true rfl, Nat.le_of_ble_eq_true rfl⟩ rfl (fun H locs hP hD hS => ?_)
          refine w_ist hx hb hK hP hD hS 1 0 rfl rfl 0 rfl (by decide) (by decide) (ws' := CW cI cC cT A nc nt (upd (serveF nt (nI q) (fo (stand1 (nI q)) nt (fo (turn1 (nI q)) nc f))) 1 (iceA ((serveF nt (nI q) (fo (stand1 (nI q)) nt (fo (turn1 (nI q)) nc f))) 1) ((serveF nt (nI q) (fo (stand1 (nI q)) nt (fo (turn1 (nI q)) nc f))) 0) (nI q))) g) (cw_stock 0 (by decide) _) dX0_runHour_91 (fun H locs hP hD hS => ?_)
          refine lv_aload_n hx hb dX0_runHour_92 rfl (lv_at hl 2 rfl) ?_
          refine lv_dup hx hb dX0_runHour_93 rfl ?_
          refine w_get hx hb hts iX0_runHour_X0 hown hK hP 0 rfl rfl 6 (by decide) fX0_runHour_41 rfl rfl dX0_runHour_94 ?_
          refine lv_iconst (v := 1) hx hb dX0_runHour_97 (by decide) ?_
          refine lv_iadd hx hb dX0_runHour_98 ?_
          refine w_put (C := RX0) hx hb hts iX0_runHour_X0 tyX0_ok nmX0 hown hK hP hD hS 0 rfl rfl 6 (by decide) fX0_runHour_41 rfl rfl rfl rfl (Nat.le_of_ble_eq_true rfl) (ws' := CW cI cC cT A nc nt (upd (upd (serveF nt (nI q) (fo (stand1 (nI q)) nt (fo (turn1 (nI q)) nc f))) 1 (iceA ((serveF nt (nI q) (fo (stand1 (nI q)) nt (fo (turn1 (nI q)) nc f))) 1) ((serveF nt (nI q) (fo (stand1 (nI q)) nt (fo (turn1 (nI q)) nc f))) 0) (nI q))) 0 (((upd (serveF nt (nI q) (fo (stand1 (nI q)) nt (fo (turn1 (nI q)) nc f))) 1 (iceA ((serveF nt (nI q) (fo (stand1 (nI q)) nt (fo (turn1 (nI q)) nc f))) 1) ((serveF nt (nI q) (fo (stand1 (nI q)) nt (fo (turn1 (nI q)) nc f))) 0) (nI q))) 0) + 1)) g) rfl dX0_runHour_99 (fun H locs hP hD hS => ?_)
          refine lv_iconst (v := 0) hx hb dX0_runHour_102 (by decide) ?_
          refine lv_istore_n (lv' := [(2, .int 0), (1, .int (nI q)), (0, .ref (A 0))]) hx hb dX0_runHour_103 rfl hl (by decide) rfl (fun ls hl => ?_)
          have lp2 : ∀ (n j : Nat), j + n = nt → ∀ (H : Heap) (locs : List Loc), va_P D vwCl (CW cI cC cT A nc nt (fo forg1 j (upd (upd (serveF nt (nI q) (fo (stand1 (nI q)) nt (fo (turn1 (nI q)) nc f))) 1 (iceA ((serveF nt (nI q) (fo (stand1 (nI q)) nt (fo (turn1 (nI q)) nc f))) 1) ((serveF nt (nI q) (fo (stand1 (nI q)) nt (fo (turn1 (nI q)) nc f))) 0) (nI q))) 0 ((upd (serveF nt (nI q) (fo (stand1 (nI q)) nt (fo (turn1 (nI q)) nc f))) 1 (iceA ((serveF nt (nI q) (fo (stand1 (nI q)) nt (fo (turn1 (nI q)) nc f))) 1) ((serveF nt (nI q) (fo (stand1 (nI q)) nt (fo (turn1 (nI q)) nc f))) 0) (nI q))) 0 + 1))) g) H → va_D A0 (CW cI cC cT A nc nt (fo forg1 j (upd (upd (serveF nt (nI q) (fo (stand1 (nI q)) nt (fo (turn1 (nI q)) nc f))) 1 (iceA ((serveF nt (nI q) (fo (stand1 (nI q)) nt (fo (turn1 (nI q)) nc f))) 1) ((serveF nt (nI q) (fo (stand1 (nI q)) nt (fo (turn1 (nI q)) nc f))) 0) (nI q))) 0 ((upd (serveF nt (nI q) (fo (stand1 (nI q)) nt (fo (turn1 (nI q)) nc f))) 1 (iceA ((serveF nt (nI q) (fo (stand1 (nI q)) nt (fo (turn1 (nI q)) nc f))) 1) ((serveF nt (nI q) (fo (stand1 (nI q)) nt (fo (turn1 (nI q)) nc f))) 0) (nI q))) 0 + 1))) g) → va_S A0 s.heap H locs → ∀ ls, lv_has ls 3 [(2, .int (nI j)), (1, .int (nI q)), (0, .ref (A 0))] → W p l e ({ frames := 3, cells := 0, slots := 0, locals := 68 } : Room) s m args below meth c H locs 0 0 (Q0 below D (none) (CW cI cC cT A nc nt (hourF nc nt g f) g) A0 args s 0 0) (F0 m 104 ls []) := by
            intro n
            induction n with
            | zero =>
              intro j hj   H locs hP hD hS ls hl
              have hje : nt = j := by omega
              subst hje
              refine lv_iload_n hx hb dX0_runHour_104 rfl (lv_at hl 0 rfl) ?_
              refine lv_aload_n hx hb dX0_runHour_105 rfl (lv_at hl 2 rfl) ?_
              refine w_get hx hb hts iX0_runHour_X0 hown hK hP 0 rfl rfl 5 (by decide) fX0_runHour_68 rfl rfl dX0_runHour_106 ?_
              refine lv_icmp_ge (tgt := 127) hx hb dX0_runHour_109 (by decide) (fun c_109 => ?_) (fun c_109 => ?_)
              rotate_left
              · exact absurd (Int32.le_refl _) c_109
              exact e0_v hx hb hr hlocks (P_eq (by rw [hourF, hhot]; rfl) hP) hS dX0_runHour_127 (by decide) (by decide) (rfl)
            | succ n ih =>
              intro j hj   H locs hP hD hS ls hl
              refine lv_iload_n hx hb dX0_runHour_104 rfl (lv_at hl 0 rfl) ?_
              refine lv_aload_n hx hb dX0_runHour_105 rfl (lv_at hl 2 rfl) ?_
              refine w_get hx hb hts iX0_runHour_X0 hown hK hP 0 rfl rfl 5 (by decide) fX0_runHour_68 rfl rfl dX0_runHour_106 ?_
              refine lv_icmp_ge (tgt := 127) hx hb dX0_runHour_109 (by decide) (fun c_109 => ?_) (fun c_109 => ?_)
              · exact absurd c_109 (nI_ge (by omega) (by omega))
              refine lv_aload_n hx hb dX0_runHour_112 rfl (lv_at hl 2 rfl) ?_
              refine w_get hx hb hts iX0_runHour_X0 hown hK hP 0 rfl rfl 3 (by decide) fX0_runHour_29 rfl rfl dX0_runHour_113 ?_
              refine lv_iload_n hx hb dX0_runHour_116 rfl (lv_at hl 0 rfl) ?_
              refine w_qld hx hb hK hP 4 2 rfl rfl j rfl (by omega) (by decide) (v := A (9 + j)) rfl dX0_runHour_117 ?_
              refine c0_V (As := []) (rest := []) ⟨hx, hb, hml, hown, hts⟩ (mX2_forgetSoftnessIfEmpty l D cI cC cT cL (A (9 + j)) ((fo forg1 j (upd (upd (serveF nt (nI q) (fo (stand1 (nI q)) nt (fo (turn1 (nI q)) nc f))) 1 (iceA ((serveF nt (nI q) (fo (stand1 (nI q)) nt (fo (turn1 (nI q)) nc f))) 1) ((serveF nt (nI q) (fo (stand1 (nI q)) nt (fo (turn1 (nI q)) nc f))) 0) (nI q))) 0 ((upd (serveF nt (nI q) (fo (stand1 (nI q)) nt (fo (turn1 (nI q)) nc f))) 1 (iceA ((serveF nt (nI q) (fo (stand1 (nI q)) nt (fo (turn1 (nI q)) nc f))) 1) ((serveF nt (nI q) (fo (stand1 (nI q)) nt (fo (turn1 (nI q)) nc f))) 0) (nI q))) 0 + 1))) (19 + 3 * j)) ((fo forg1 j (upd (upd (serveF nt (nI q) (fo (stand1 (nI q)) nt (fo (turn1 (nI q)) nc f))) 1 (iceA ((serveF nt (nI q) (fo (stand1 (nI q)) nt (fo (turn1 (nI q)) nc f))) 1) ((serveF nt (nI q) (fo (stand1 (nI q)) nt (fo (turn1 (nI q)) nc f))) 0) (nI q))) 0 ((upd (serveF nt (nI q) (fo (stand1 (nI q)) nt (fo (turn1 (nI q)) nc f))) 1 (iceA ((serveF nt (nI q) (fo (stand1 (nI q)) nt (fo (turn1 (nI q)) nc f))) 1) ((serveF nt (nI q) (fo (stand1 (nI q)) nt (fo (turn1 (nI q)) nc f))) 0) (nI q))) 0 + 1))) (20 + 3 * j)) ((fo forg1 j (upd (upd (serveF nt (nI q) (fo (stand1 (nI q)) nt (fo (turn1 (nI q)) nc f))) 1 (iceA ((serveF nt (nI q) (fo (stand1 (nI q)) nt (fo (turn1 (nI q)) nc f))) 1) ((serveF nt (nI q) (fo (stand1 (nI q)) nt (fo (turn1 (nI q)) nc f))) 0) (nI q))) 0 ((upd (serveF nt (nI q) (fo (stand1 (nI q)) nt (fo (turn1 (nI q)) nc f))) 1 (iceA ((serveF nt (nI q) (fo (stand1 (nI q)) nt (fo (turn1 (nI q)) nc f))) 1) ((serveF nt (nI q) (fo (stand1 (nI q)) nt (fo (turn1 (nI q)) nc f))) 0) (nI q))) 0 + 1))) (21 + 3 * j)) ) (cwV 0 hts gX0_runHour_X2_forgetSoftnessIfEmpty rfl rfl rfl pX2_forgetSoftnessIfEmpty ⟨Nat.le_of_ble_eq_true rfl, Nat.le_of_ble_eq_true rfl⟩) hK hP hD hS hA hST (Jn_tub j (by omega) _ _ _) 0 rfl rfl rfl rfl hl.1 rfl (Nat.le_of_ble_eq_true rfl) dX0_runHour_118 ⟨Nat.le_of_ble_eq_true rfl, Nat.le_of_ble_eq_true rfl⟩ rfl (fun H locs hP hD hS => ?_)
              refine lv_iinc (v := nI (j + 1)) (lv' := [(2, .int (nI (j + 1))), (1, .int (nI q)), (0, .ref (A 0))]) hx hb dX0_runHour_121 hl (k := 0) rfl (nI_succ _).symm (by decide) rfl (fun ls hl => ?_)
              refine lv_goto (tgt := 104) hx hb dX0_runHour_124 (by decide) ?_
              exact ih (j + 1) (by omega) _ _ hP hD hS _ (lv_sub hl [0, 1, 2] rfl)
          exact lp2 nt 0 (by omega) _ _ hP hD hS _ (lv_sub hl [0, 1, 2] rfl)
        | succ n ih =>
          intro j hj   H locs hP hD hS ls hl
          refine lv_iload_n hx hb dX0_runHour_37 rfl (lv_at hl 0 rfl) ?_
          refine lv_aload_n hx hb dX0_runHour_38 rfl (lv_at hl 2 rfl) ?_
          refine w_get hx hb hts iX0_runHour_X0 hown hK hP 0 rfl rfl 5 (by decide) fX0_runHour_68 rfl rfl dX0_runHour_39 ?_
          refine lv_icmp_ge (tgt := 67) hx hb dX0_runHour_42 (by decide) (fun c_42 => ?_) (fun c_42 => ?_)
          · exact absurd c_42 (nI_ge (by omega) (by omega))
          refine lv_aload_n hx hb dX0_runHour_45 rfl (lv_at hl 2 rfl) ?_
          refine w_get hx hb hts iX0_runHour_X0 hown hK hP 0 rfl rfl 3 (by decide) fX0_runHour_29 rfl rfl dX0_runHour_46 ?_
          refine lv_iload_n hx hb dX0_runHour_49 rfl (lv_at hl 0 rfl) ?_
          refine w_qld hx hb hK hP 4 2 rfl rfl j rfl (by omega) (by decide) (v := A (9 + j)) rfl dX0_runHour_50 ?_
          refine lv_iload_n hx hb dX0_runHour_51 rfl (lv_at hl 1 rfl) ?_
          refine lv_aload_n hx hb dX0_runHour_52 rfl (lv_at hl 2 rfl) ?_
          refine w_get hx hb hts iX0_runHour_X0 hown hK hP 0 rfl rfl 0 (by decide) fX0_runHour_13 rfl rfl dX0_runHour_53 ?_
          refine lv_iconst (v := 0) hx hb dX0_runHour_56 (by decide) ?_
          refine w_ild hx hb hK hP 1 0 rfl rfl 0 rfl (by decide) (by decide) (v := (fo (stand1 (nI q)) j (fo (turn1 (nI q)) nc f)) 1) rfl dX0_runHour_57 ?_
          refine c0_V (As := [.int (nI q), .int ((fo (stand1 (nI q)) j (fo (turn1 (nI q)) nc f)) 1)]) (rest := []) ⟨hx, hb, hml, hown, hts⟩ (mX2_standInHeat l D cI cC cT cL (A (9 + j)) ((fo (stand1 (nI q)) j (fo (turn1 (nI q)) nc f)) (19 + 3 * j)) ((fo (stand1 (nI q)) j (fo (turn1 (nI q)) nc f)) (20 + 3 * j)) ((fo (stand1 (nI q)) j (fo (turn1 (nI q)) nc f)) (21 + 3 * j)) (nI q) ((fo (stand1 (nI q)) j (fo (turn1 (nI q)) nc f)) 1)) (cwV 2 hts gX0_runHour_X2_standInHeat rfl rfl rfl pX2_standInHeat ⟨Nat.le_of_ble_eq_true rfl, Nat.le_of_ble_eq_true rfl⟩) hK hP hD hS hA hST (Jn_tub j (by omega) _ _ _) 0 rfl rfl rfl rfl hl.1 rfl (Nat.le_of_ble_eq_true rfl) dX0_runHour_58 ⟨Nat.le_of_ble_eq_true rfl, Nat.le_of_ble_eq_true rfl⟩ rfl (fun H locs hP hD hS => ?_)
          refine lv_iinc (v := nI (j + 1)) (lv' := [(2, .int (nI (j + 1))), (1, .int (nI q)), (0, .ref (A 0))]) hx hb dX0_runHour_61 hl (k := 0) rfl (nI_succ _).symm (by decide) rfl (fun ls hl => ?_)
          refine lv_goto (tgt := 37) hx hb dX0_runHour_64 (by decide) ?_
          exact ih (j + 1) (by omega) _ _ hP hD hS _ (lv_sub hl [0, 1, 2] rfl)
      exact lp1 nt 0 (by omega) _ _ hP hD hS _ (lv_sub hl [0, 1, 2] rfl)
    | succ n ih =>
      intro j hj   H locs hP hD hS ls hl
      refine lv_iload_n hx hb dX0_runHour_11 rfl (lv_at hl 0 rfl) ?_
      refine lv_aload_n hx hb dX0_runHour_12 rfl (lv_at hl 2 rfl) ?_
      refine w_get hx hb hts iX0_runHour_X0 hown hK hP 0 rfl rfl 4 (by decide) fX0_runHour_83 rfl rfl dX0_runHour_13 ?_
      refine lv_icmp_ge (tgt := 35) hx hb dX0_runHour_16 (by decide) (fun c_16 => ?_) (fun c_16 => ?_)
      · exact absurd c_16 (nI_ge (by omega) (by omega))
      refine lv_aload_n hx hb dX0_runHour_19 rfl (lv_at hl 2 rfl) ?_
      refine w_get hx hb hts iX0_runHour_X0 hown hK hP 0 rfl rfl 2 (by decide) fX0_runHour_23 rfl rfl dX0_runHour_20 ?_
      refine lv_iload_n hx hb dX0_runHour_23 rfl (lv_at hl 0 rfl) ?_
      refine w_qld hx hb hK hP 3 1 rfl rfl j rfl (by omega) (by decide) (v := A (5 + j)) rfl dX0_runHour_24 ?_
      refine lv_iload_n hx hb dX0_runHour_25 rfl (lv_at hl 1 rfl) ?_
      refine c0_V (As := [.int (nI q)]) (rest := []) ⟨hx, hb, hml, hown, hts⟩ (mX1_turn l D cI cC cT cL (A (5 + j)) ((fo (turn1 (nI q)) j f) (7 + 3 * j)) ((fo (turn1 (nI q)) j f) (8 + 3 * j)) ((fo (turn1 (nI q)) j f) (9 + 3 * j)) (nI q)) (cwV 1 hts gX0_runHour_X1_turn rfl rfl rfl pX1_turn ⟨Nat.le_of_ble_eq_true rfl, Nat.le_of_ble_eq_true rfl⟩) hK hP hD hS hA hST (Jn_churn j (by omega) _ _ _) 0 rfl rfl rfl rfl hl.1 rfl (Nat.le_of_ble_eq_true rfl) dX0_runHour_26 ⟨Nat.le_of_ble_eq_true rfl, Nat.le_of_ble_eq_true rfl⟩ rfl (fun H locs hP hD hS => ?_)
      refine lv_iinc (v := nI (j + 1)) (lv' := [(2, .int (nI (j + 1))), (1, .int (nI q)), (0, .ref (A 0))]) hx hb dX0_runHour_29 hl (k := 0) rfl (nI_succ _).symm (by decide) rfl (fun ls hl => ?_)
      refine lv_goto (tgt := 11) hx hb dX0_runHour_32 (by decide) ?_
      exact ih (j + 1) (by omega) _ _ hP hD hS _ (lv_sub hl [0, 1, 2] rfl)
  exact lp0 nc 0 (by omega) _ _ hP hD hS _ (lv_sub hl [0, 1, 2] rfl)

set_option maxHeartbeats 4000000 in
set_option maxRecDepth 100000 in
theorem mX0_runHours (l : Launch) (D : va_G) (cI cC cT cL : ClassId) (A : Nat → Nat) (nc nt : Nat) (f g : Nat → Int32) (hnc : nc ≤ 4) (hnt : nt ≤ 6) (hI : Inv f) (hg : Gd g) (h : Nat) (h0 : f 0 = nI h) (r : Nat) (hh : h + r < 2 ^ 30) : M0 l yX0_runHours wsX0_runHours ({ frames := 4, cells := 0, slots := 0, locals := 90 } : Room) D (TY cI cC cT cL) [.ref (A 0), .int (nI r)] (CW cI cC cT A nc nt f g) (none) (CW cI cC cT A nc nt (rep (hourF nc nt g) r f) g) 0 0 := by
  refine M0_of (cc := cX0_runHours) (maxL := 3) (ret := none) (by decide +kernel) rfl (Nat.le_of_ble_eq_true rfl) ?_
  intro p e s m args below meth c A0 B ls hl
  obtain ⟨hx, hb, hml, hr, hown, hts, hlocks, hK, hP, hD, hA, hST, hnm⟩ := B
  have hown : s.vm.findClass RX0 = some m.cls := hown
  have hS : va_S A0 s.heap s.heap [] := va_S.rf
  have hl : lv_has ls 3 [(0, .ref (A 0)), (1, .int (nI r))] := hl
  refine lv_iconst (v := 0) hx hb dX0_runHours_0 (by decide) ?_
  refine lv_istore_n (lv' := [(2, .int 0), (0, .ref (A 0)), (1, .int (nI r))]) hx hb dX0_runHours_1 rfl hl (by decide) rfl (fun ls hl => ?_)
  have lp0 : ∀ (n j : Nat), j + n = r → ∀ (H : Heap) (locs : List Loc), va_P D vwCl (CW cI cC cT A nc nt (rep (hourF nc nt g) j f) g) H → va_D A0 (CW cI cC cT A nc nt (rep (hourF nc nt g) j f) g) → va_S A0 s.heap H locs → ∀ ls, lv_has ls 3 [(2, .int (nI j)), (1, .int (nI r)), (0, .ref (A 0))] → W p l e ({ frames := 4, cells := 0, slots := 0, locals := 90 } : Room) s m args below meth c H locs 0 0 (Q0 below D (none) (CW cI cC cT A nc nt (rep (hourF nc nt g) r f) g) A0 args s 0 0) (F0 m 2 ls []) := by
    intro n
    induction n with
    | zero =>
      intro j hj   H locs hP hD hS ls hl
      have hje : r = j := by omega
      subst hje
      refine lv_iload_n hx hb dX0_runHours_2 rfl (lv_at hl 0 rfl) ?_
      refine lv_iload_n hx hb dX0_runHours_3 rfl (lv_at hl 1 rfl) ?_
      refine lv_icmp_ge (tgt := 17) hx hb dX0_runHours_4 (by decide) (fun c_4 => ?_) (fun c_4 => ?_)
      rotate_left
      · exact absurd (Int32.le_refl _) c_4
      exact e0_v hx hb hr hlocks hP hS dX0_runHours_17 (by decide) (by decide) (rfl)
    | succ n ih =>
      intro j hj   H locs hP hD hS ls hl
      refine lv_iload_n hx hb dX0_runHours_2 rfl (lv_at hl 0 rfl) ?_
      refine lv_iload_n hx hb dX0_runHours_3 rfl (lv_at hl 1 rfl) ?_
      refine lv_icmp_ge (tgt := 17) hx hb dX0_runHours_4 (by decide) (fun c_4 => ?_) (fun c_4 => ?_)
      · exact absurd c_4 (nI_ge (by omega) (by omega))
      refine lv_aload_n hx hb dX0_runHours_7 rfl (lv_at hl 2 rfl) ?_
      refine c0_V (As := []) (rest := []) ⟨hx, hb, hml, hown, hts⟩ (mX0_runHour l D cI cC cT cL A nc nt (rep (hourF nc nt g) j f) g hnc hnt (Inv.hours hI hg hnc hnt h0 j (by omega)).1 hg (h + j) (by omega) (Inv.hours hI hg hnc hnt h0 j (by omega)).2) (cwV 0 hts gX0_runHours_X0_runHour rfl rfl rfl pX0_runHour ⟨Nat.le_of_ble_eq_true rfl, Nat.le_of_ble_eq_true rfl⟩) hK hP hD hS hA hST (Jn_all _ _ rfl) 0 rfl rfl rfl rfl hl.1 rfl (Nat.le_of_ble_eq_true rfl) dX0_runHours_8 ⟨Nat.le_of_ble_eq_true rfl, Nat.le_of_ble_eq_true rfl⟩ rfl (fun H locs hP hD hS => ?_)
      refine lv_iinc (v := nI (j + 1)) (lv' := [(2, .int (nI (j + 1))), (1, .int (nI r)), (0, .ref (A 0))]) hx hb dX0_runHours_11 hl (k := 0) rfl (nI_succ _).symm (by decide) rfl (fun ls hl => ?_)
      refine lv_goto (tgt := 2) hx hb dX0_runHours_14 (by decide) ?_
      exact ih (j + 1) (by omega) _ _ hP hD hS _ (lv_sub hl [0, 1, 2] rfl)
  exact lp0 r 0 (by omega) _ _ hP hD hS _ (lv_sub hl [0, 2, 1] rfl)

def coldN (g : Nat → Int32) (h : Nat) (c0 : Int32) : Nat → Int32
  | 0 => c0
  | n + 1 => coldA (coldN g h c0 n) (g ((h + n) / 24 % 7))
def firmN (g : Nat → Int32) (h : Nat) (c0 d0 : Int32) : Nat → Int32
  | 0 => d0
  | n + 1 => firmA (firmN g h c0 d0 n) (coldN g h c0 n)
def fd50 (fm : Nat → Int32) : Nat → Nat → Int32
  | 0, _ => -1
  | n + 1, k => if 50 ≤ fm k then nI k else fd50 fm n (k + 1)
def iceN (f g : Nat → Int32) (h : Nat) : Nat → Int32
  | 0 => f 1
  | n + 1 => iceA (iceN f g h n) (f 0 + nI n) (g ((h + n) / 24 % 7))
def fd0 (fm : Nat → Int32) : Nat → Nat → Int32
  | 0, _ => -1
  | n + 1, k => if fm k = 0 then nI k else fd0 fm n (k + 1)
def doneC (f g : Nat → Int32) (h i : Nat) : Int32 := if f (8 + 3 * i) = 0 then -1 else fd50 (firmN g h (f (7 + 3 * i)) (f (9 + 3 * i))) 101 0

set_option maxHeartbeats 4000000 in
set_option maxRecDepth 100000 in
theorem mX0_hoursUntilFirm (l : Launch) (D : va_G) (cI cC cT cL : ClassId) (A : Nat → Nat) (nc nt : Nat) (f g : Nat → Int32) (i : Nat) (hi : i < 4) (h : Nat) (hh : h < 2 ^ 30) (h0 : f 0 = nI h) : M0 l yX0_hoursUntilFirm wsX0_hoursUntilFirm ({ frames := 2, cells := 0, slots := 0, locals := 43 } : Room) D (TY cI cC cT cL) [.ref (A 0), .ref (A (5 + i))] (CW cI cC cT A nc nt f g) (some (.int (doneC f g h i))) (CW cI cC cT A nc nt f g) 0 0 := by
  refine M0_of (cc := cX0_hoursUntilFirm) (maxL := 5) (ret := (some .int)) (by decide +kernel) rfl (Nat.le_of_ble_eq_true rfl) ?_
  intro p e s m args below meth c A0 B ls hl
  obtain ⟨hx, hb, hml, hr, hown, hts, hlocks, hK, hP, hD, hA, hST, hnm⟩ := B
  have hown : s.vm.findClass RX0 = some m.cls := hown
  have hS : va_S A0 s.heap s.heap [] := va_S.rf
  have hl : lv_has ls 5 [(0, .ref (A 0)), (1, .ref (A (5 + i)))] := hl
  refine lv_aload_n hx hb dX0_hoursUntilFirm_0 rfl (lv_at hl 1 rfl) ?_
  refine w_getN hx hb hts iX0_hoursUntilFirm_X1 hown hK hST hP (5 + i) (cw_gchurn i hi) rfl 1 (by decide) 3 rfl rfl rfl dX0_hoursUntilFirm_1 ?_
  refine lv_if_ne (tgt := 9) hx hb dX0_hoursUntilFirm_4 (by decide) (fun c_4 => ?_) (fun c_4 => ?_)
  ·
    refine lv_aload_n hx hb dX0_hoursUntilFirm_9 rfl (lv_at hl 1 rfl) ?_
    refine w_getN hx hb hts iX0_hoursUntilFirm_X1 hown hK hST hP (5 + i) (cw_gchurn i hi) rfl 2 (by decide) 5 rfl rfl rfl dX0_hoursUntilFirm_10 ?_
    refine lv_istore_n (lv' := [(2, .int (f (9 + 3 * i))), (0, .ref (A 0)), (1, .ref (A (5 + i)))]) hx hb dX0_hoursUntilFirm_13 rfl hl (by decide) rfl (fun ls hl => ?_)
    refine lv_aload_n hx hb dX0_hoursUntilFirm_14 rfl (lv_at hl 2 rfl) ?_
    refine w_getN hx hb hts iX0_hoursUntilFirm_X1 hown hK hST hP (5 + i) (cw_gchurn i hi) rfl 0 (by decide) 1 rfl rfl rfl dX0_hoursUntilFirm_15 ?_
    refine lv_istore_n (lv' := [(3, .int (f (7 + 3 * i))), (2, .int (f (9 + 3 * i))), (0, .ref (A 0)), (1, .ref (A (5 + i)))]) hx hb dX0_hoursUntilFirm_18 rfl hl (by decide) rfl (fun ls hl => ?_)
    refine lv_iconst (v := 0) hx hb dX0_hoursUntilFirm_19 (by decide) ?_
    refine lv_istore (lv' := [(4, .int 0), (3, .int (f (7 + 3 * i))), (2, .int (f (9 + 3 * i))), (0, .ref (A 0)), (1, .ref (A (5 + i)))]) hx hb dX0_hoursUntilFirm_20 hl (by decide) rfl (fun ls hl => ?_)
    have lp0 : ∀ (n j : Nat), j + n = 101 → ∀ (fm : Int32) (cd : Int32), (fm = (firmN g h (f (7 + 3 * i)) (f (9 + 3 * i))) j) → (cd = (coldN g h (f (7 + 3 * i))) j) → (fd50 (firmN g h (f (7 + 3 * i)) (f (9 + 3 * i))) n j = fd50 (firmN g h (f (7 + 3 * i)) (f (9 + 3 * i))) 101 0) → ∀ (H : Heap) (locs : List Loc), va_P D vwCl (CW cI cC cT A nc nt f g) H → va_D A0 (CW cI cC cT A nc nt f g) → va_S A0 s.heap H locs → ∀ ls, lv_has ls 5 [(4, .int (nI j)), (3, .int cd), (2, .int fm), (1, .ref (A (5 + i))), (0, .ref (A 0))] → W p l e ({ frames := 2, cells := 0, slots := 0, locals := 43 } : Room) s m args below meth c H locs 0 0 (Q0 below D (some (.int (doneC f g h i))) (CW cI cC cT A nc nt f g) A0 args s 0 0) (F0 m 22 ls []) := by
      intro n
      induction n with
      | zero =>
        intro j hj fm cd hf hcd hR H locs hP hD hS ls hl
        have hje : 101 = j := by omega
        subst hje
        refine lv_iload hx hb dX0_hoursUntilFirm_22 (lv_at hl 0 rfl) ?_
        refine lv_bipush (v := 100) hx hb dX0_hoursUntilFirm_24 (by decide) ?_
        refine lv_icmp_gt (tgt := 66) hx hb dX0_hoursUntilFirm_26 (by decide) (fun c_26 => ?_) (fun c_26 => ?_)
        rotate_left
        · exact absurd (by decide) c_26
        refine lv_iconst (v := (-1)) hx hb dX0_hoursUntilFirm_66 (by decide) ?_
        exact e0_i hx hb hr hlocks hP hS dX0_hoursUntilFirm_67 (by decide) (by decide) (by rw [doneC, if_neg c_4, ← hR, fd50])
      | succ n ih =>
        intro j hj fm cd hf hcd hR H locs hP hD hS ls hl
        refine lv_iload hx hb dX0_hoursUntilFirm_22 (lv_at hl 0 rfl) ?_
        refine lv_bipush (v := 100) hx hb dX0_hoursUntilFirm_24 (by decide) ?_
        refine lv_icmp_gt (tgt := 66) hx hb dX0_hoursUntilFirm_26 (by decide) (fun c_26 => ?_) (fun c_26 => ?_)
        · exact absurd c_26 (nI_nlt (a := 100) (by omega) (by decide))
        refine lv_iload_n hx hb dX0_hoursUntilFirm_29 rfl (lv_at hl 2 rfl) ?_
        refine lv_bipush (v := 50) hx hb dX0_hoursUntilFirm_30 (by decide) ?_
        refine lv_icmp_lt (tgt := 38) hx hb dX0_hoursUntilFirm_32 (by decide) (fun c_32 => ?_) (fun c_32 => ?_)
        ·
          refine lv_iload_n hx hb dX0_hoursUntilFirm_38 rfl (lv_at hl 2 rfl) ?_
          refine lv_iload_n hx hb dX0_hoursUntilFirm_39 rfl (lv_at hl 1 rfl) ?_
          refine c0_SN (As := [.int fm, .int cd]) (rest := []) ⟨hx, hb, hml, hown, hts⟩ (mX3_firmAfterHour l D cI cC cT cL fm cd) ⟨va_cnB 2 hts gX0_hoursUntilFirm_X3_firmAfterHour_n122 rfl rfl rfl (hST.2.1 _ (List.mem_of_getElem? (i := 5) rfl)) (hts _ inX0_hoursUntilFirm_X3) pX3_firmAfterHour ⟨Nat.le_of_ble_eq_true rfl, Nat.le_of_ble_eq_true rfl⟩, hts _ stX0_hoursUntilFirm_X3_firmAfterHour, trivial⟩ hK hP hD hS hA hST (Jn_nil _) rfl hl.1 rfl (Nat.le_of_ble_eq_true rfl) dX0_hoursUntilFirm_40 ⟨Nat.le_of_ble_eq_true rfl, Nat.le_of_ble_eq_true rfl⟩ rfl (fun H locs hP hD hS => ?_)
          refine lv_istore_n (lv' := [(2, .int (firmA fm cd)), (4, .int (nI j)), (3, .int cd), (1, .ref (A (5 + i))), (0, .ref (A 0))]) hx hb dX0_hoursUntilFirm_43 rfl hl (by decide) rfl (fun ls hl => ?_)
          refine lv_iload_n hx hb dX0_hoursUntilFirm_44 rfl (lv_at hl 2 rfl) ?_
          refine lv_aload_n hx hb dX0_hoursUntilFirm_45 rfl (lv_at hl 4 rfl) ?_
          refine lv_aload_n hx hb dX0_hoursUntilFirm_46 rfl (lv_at hl 4 rfl) ?_
          refine w_get hx hb hts iX0_hoursUntilFirm_X0 hown hK hP 0 rfl rfl 6 (by decide) fX0_hoursUntilFirm_41 rfl rfl dX0_hoursUntilFirm_47 ?_
          refine lv_iload hx hb dX0_hoursUntilFirm_50 (lv_at hl 1 rfl) ?_
          refine lv_iadd hx hb dX0_hoursUntilFirm_52 ?_
          refine c0_V (As := [.int ((f 0) + (nI j))]) (rest := [.int cd]) ⟨hx, hb, hml, hown, hts⟩ (mX0_heatAt l D cI cC cT cL A nc nt f g ((f 0) + (nI j)) (h + j) (by omega) (by rw [h0, nI_add])) (cwV 1 hts gX0_hoursUntilFirm_X0_heatAt rfl rfl rfl pX0_heatAt ⟨Nat.le_of_ble_eq_true rfl, Nat.le_of_ble_eq_true rfl⟩) hK hP hD hS hA hST (Jn_all _ _ rfl) 0 rfl rfl rfl rfl hl.1 rfl (Nat.le_of_ble_eq_true rfl) dX0_hoursUntilFirm_53 ⟨Nat.le_of_ble_eq_true rfl, Nat.le_of_ble_eq_true rfl⟩ rfl (fun H locs hP hD hS => ?_)
          refine c0_SN (As := [.int cd, .int (g ((h + j) / 24 % 7))]) (rest := []) ⟨hx, hb, hml, hown, hts⟩ (mX3_coldAfterHour l D cI cC cT cL cd (g ((h + j) / 24 % 7))) ⟨va_cnB 2 hts gX0_hoursUntilFirm_X3_coldAfterHour_n125 rfl rfl rfl (hST.2.1 _ (List.mem_of_getElem? (i := 6) rfl)) (hts _ inX0_hoursUntilFirm_X3) pX3_coldAfterHour ⟨Nat.le_of_ble_eq_true rfl, Nat.le_of_ble_eq_true rfl⟩, hts _ stX0_hoursUntilFirm_X3_coldAfterHour, trivial⟩ hK hP hD hS hA hST (Jn_nil _) rfl hl.1 rfl (Nat.le_of_ble_eq_true rfl) dX0_hoursUntilFirm_56 ⟨Nat.le_of_ble_eq_true rfl, Nat.le_of_ble_eq_true rfl⟩ rfl (fun H locs hP hD hS => ?_)
          refine lv_istore_n (lv' := [(3, .int (coldA cd (g ((h + j) / 24 % 7)))), (2, .int (firmA fm cd)), (4, .int (nI j)), (1, .ref (A (5 + i))), (0, .ref (A 0))]) hx hb dX0_hoursUntilFirm_59 rfl hl (by decide) rfl (fun ls hl => ?_)
          refine lv_iinc (v := nI (j + 1)) (lv' := [(4, .int (nI (j + 1))), (3, .int (coldA cd (g ((h + j) / 24 % 7)))), (2, .int (firmA fm cd)), (1, .ref (A (5 + i))), (0, .ref (A 0))]) hx hb dX0_hoursUntilFirm_60 hl (k := 2) rfl (nI_succ _).symm (by decide) rfl (fun ls hl => ?_)
          refine lv_goto (tgt := 22) hx hb dX0_hoursUntilFirm_63 (by decide) ?_
          exact ih (j + 1) (by omega) _ _ (by rw [hf, hcd]; rfl) (by rw [hcd]; rfl) (by rw [← hR, fd50, if_neg (by rw [← hf]; exact Int32.not_le.mpr c_32)]) _ _ hP hD hS _ (lv_sub hl [0, 1, 2, 3, 4] rfl)
        ·
          refine lv_iload hx hb dX0_hoursUntilFirm_35 (lv_at hl 0 rfl) ?_
          exact e0_i hx hb hr hlocks hP hS dX0_hoursUntilFirm_37 (by decide) (by decide) (by rw [doneC, if_neg c_4, ← hR, fd50, if_pos (by rw [← hf]; exact Int32.not_lt.mp c_32)])
    exact lp0 101 0 rfl _ _ rfl rfl rfl _ _ hP hD hS _ (lv_sub hl [0, 1, 2, 4, 3] rfl)
  ·
    refine lv_iconst (v := (-1)) hx hb dX0_hoursUntilFirm_7 (by decide) ?_
    exact e0_i hx hb hr hlocks hP hS dX0_hoursUntilFirm_8 (by decide) (by decide) (by rw [doneC, if_pos c_4])

set_option maxHeartbeats 4000000 in
set_option maxRecDepth 100000 in
theorem mX0_hoursUntilNoIce (l : Launch) (D : va_G) (cI cC cT cL : ClassId) (A : Nat → Nat) (nc nt : Nat) (f g : Nat → Int32) (h : Nat) (hh : h < 2 ^ 30) (h0 : f 0 = nI h) : M0 l yX0_hoursUntilNoIce wsX0_hoursUntilNoIce ({ frames := 2, cells := 0, slots := 0, locals := 43 } : Room) D (TY cI cC cT cL) [.ref (A 0)] (CW cI cC cT A nc nt f g) (some (.int (fd0 (iceN f g h) 1000 0))) (CW cI cC cT A nc nt f g) 0 0 := by
  refine M0_of (cc := cX0_hoursUntilNoIce) (maxL := 3) (ret := (some .int)) (by decide +kernel) rfl (Nat.le_of_ble_eq_true rfl) ?_
  intro p e s m args below meth c A0 B ls hl
  obtain ⟨hx, hb, hml, hr, hown, hts, hlocks, hK, hP, hD, hA, hST, hnm⟩ := B
  have hown : s.vm.findClass RX0 = some m.cls := hown
  have hS : va_S A0 s.heap s.heap [] := va_S.rf
  have hl : lv_has ls 3 [(0, .ref (A 0))] := hl
  refine lv_aload_n hx hb dX0_hoursUntilNoIce_0 rfl (lv_at hl 0 rfl) ?_
  refine w_get hx hb hts iX0_hoursUntilNoIce_X0 hown hK hP 0 rfl rfl 0 (by decide) fX0_hoursUntilNoIce_13 rfl rfl dX0_hoursUntilNoIce_1 ?_
  refine lv_iconst (v := 0) hx hb dX0_hoursUntilNoIce_4 (by decide) ?_
  refine w_ild hx hb hK hP 1 0 rfl rfl 0 rfl (by decide) (by decide) (v := f 1) rfl dX0_hoursUntilNoIce_5 ?_
  refine lv_istore_n (lv' := [(1, .int (f 1)), (0, .ref (A 0))]) hx hb dX0_hoursUntilNoIce_6 rfl hl (by decide) rfl (fun ls hl => ?_)
  refine lv_iconst (v := 0) hx hb dX0_hoursUntilNoIce_7 (by decide) ?_
  refine lv_istore_n (lv' := [(2, .int 0), (1, .int (f 1)), (0, .ref (A 0))]) hx hb dX0_hoursUntilNoIce_8 rfl hl (by decide) rfl (fun ls hl => ?_)
  have lp0 : ∀ (n j : Nat), j + n = 1000 → ∀ (ic : Int32), (ic = (iceN f g h) j) → (fd0 (iceN f g h) n j = fd0 (iceN f g h) 1000 0) → ∀ (H : Heap) (locs : List Loc), va_P D vwCl (CW cI cC cT A nc nt f g) H → va_D A0 (CW cI cC cT A nc nt f g) → va_S A0 s.heap H locs → ∀ ls, lv_has ls 3 [(2, .int (nI j)), (1, .int ic), (0, .ref (A 0))] → W p l e ({ frames := 2, cells := 0, slots := 0, locals := 43 } : Room) s m args below meth c H locs 0 0 (Q0 below D (some (.int (fd0 (iceN f g h) 1000 0))) (CW cI cC cT A nc nt f g) A0 args s 0 0) (F0 m 9 ls []) := by
    intro n
    induction n with
    | zero =>
      intro j hj ic hf hR H locs hP hD hS ls hl
      have hje : 1000 = j := by omega
      subst hje
      refine lv_iload_n hx hb dX0_hoursUntilNoIce_9 rfl (lv_at hl 0 rfl) ?_
      refine lv_sipush (v := 999) hx hb dX0_hoursUntilNoIce_10 (by decide) ?_
      refine lv_icmp_gt (tgt := 49) hx hb dX0_hoursUntilNoIce_13 (by decide) (fun c_13 => ?_) (fun c_13 => ?_)
      rotate_left
      · exact absurd (by decide) c_13
      refine lv_iconst (v := (-1)) hx hb dX0_hoursUntilNoIce_49 (by decide) ?_
      exact e0_i hx hb hr hlocks hP hS dX0_hoursUntilNoIce_50 (by decide) (by decide) (by rw [← hR, fd0])
    | succ n ih =>
      intro j hj ic hf hR H locs hP hD hS ls hl
      refine lv_iload_n hx hb dX0_hoursUntilNoIce_9 rfl (lv_at hl 0 rfl) ?_
      refine lv_sipush (v := 999) hx hb dX0_hoursUntilNoIce_10 (by decide) ?_
      refine lv_icmp_gt (tgt := 49) hx hb dX0_hoursUntilNoIce_13 (by decide) (fun c_13 => ?_) (fun c_13 => ?_)
      · exact absurd c_13 (nI_nlt (a := 999) (by omega) (by decide))
      refine lv_iload_n hx hb dX0_hoursUntilNoIce_16 rfl (lv_at hl 1 rfl) ?_
      refine lv_if_ne (tgt := 22) hx hb dX0_hoursUntilNoIce_17 (by decide) (fun c_17 => ?_) (fun c_17 => ?_)
      ·
        refine lv_iload_n hx hb dX0_hoursUntilNoIce_22 rfl (lv_at hl 1 rfl) ?_
        refine lv_aload_n hx hb dX0_hoursUntilNoIce_23 rfl (lv_at hl 2 rfl) ?_
        refine w_get hx hb hts iX0_hoursUntilNoIce_X0 hown hK hP 0 rfl rfl 6 (by decide) fX0_hoursUntilNoIce_41 rfl rfl dX0_hoursUntilNoIce_24 ?_
        refine lv_iload_n hx hb dX0_hoursUntilNoIce_27 rfl (lv_at hl 0 rfl) ?_
        refine lv_iadd hx hb dX0_hoursUntilNoIce_28 ?_
        refine lv_aload_n hx hb dX0_hoursUntilNoIce_29 rfl (lv_at hl 2 rfl) ?_
        refine lv_aload_n hx hb dX0_hoursUntilNoIce_30 rfl (lv_at hl 2 rfl) ?_
        refine w_get hx hb hts iX0_hoursUntilNoIce_X0 hown hK hP 0 rfl rfl 6 (by decide) fX0_hoursUntilNoIce_41 rfl rfl dX0_hoursUntilNoIce_31 ?_
        refine lv_iload_n hx hb dX0_hoursUntilNoIce_34 rfl (lv_at hl 0 rfl) ?_
        refine lv_iadd hx hb dX0_hoursUntilNoIce_35 ?_
        refine c0_V (As := [.int ((f 0) + (nI j))]) (rest := [.int ((f 0) + (nI j)), .int ic]) ⟨hx, hb, hml, hown, hts⟩ (mX0_heatAt l D cI cC cT cL A nc nt f g ((f 0) + (nI j)) (h + j) (by omega) (by rw [h0, nI_add])) (cwV 1 hts gX0_hoursUntilNoIce_X0_heatAt rfl rfl rfl pX0_heatAt ⟨Nat.le_of_ble_eq_true rfl, Nat.le_of_ble_eq_true rfl⟩) hK hP hD hS hA hST (Jn_all _ _ rfl) 0 rfl rfl rfl rfl hl.1 rfl (Nat.le_of_ble_eq_true rfl) dX0_hoursUntilNoIce_36 ⟨Nat.le_of_ble_eq_true rfl, Nat.le_of_ble_eq_true rfl⟩ rfl (fun H locs hP hD hS => ?_)
        refine c0_SN (As := [.int ic, .int ((f 0) + (nI j)), .int (g ((h + j) / 24 % 7))]) (rest := []) ⟨hx, hb, hml, hown, hts⟩ (mX3_iceAfterHour l D cI cC cT cL ic ((f 0) + (nI j)) (g ((h + j) / 24 % 7))) ⟨va_cnB 3 hts gX0_hoursUntilNoIce_X3_iceAfterHour_n97 rfl rfl rfl (hST.2.1 _ (List.mem_of_getElem? (i := 2) rfl)) (hts _ inX0_hoursUntilNoIce_X3) pX3_iceAfterHour ⟨Nat.le_of_ble_eq_true rfl, Nat.le_of_ble_eq_true rfl⟩, hts _ stX0_hoursUntilNoIce_X3_iceAfterHour, trivial⟩ hK hP hD hS hA hST (Jn_nil _) rfl hl.1 rfl (Nat.le_of_ble_eq_true rfl) dX0_hoursUntilNoIce_39 ⟨Nat.le_of_ble_eq_true rfl, Nat.le_of_ble_eq_true rfl⟩ rfl (fun H locs hP hD hS => ?_)
        refine lv_istore_n (lv' := [(1, .int (iceA ic ((f 0) + (nI j)) (g ((h + j) / 24 % 7)))), (2, .int (nI j)), (0, .ref (A 0))]) hx hb dX0_hoursUntilNoIce_42 rfl hl (by decide) rfl (fun ls hl => ?_)
        refine lv_iinc (v := nI (j + 1)) (lv' := [(2, .int (nI (j + 1))), (1, .int (iceA ic ((f 0) + (nI j)) (g ((h + j) / 24 % 7)))), (0, .ref (A 0))]) hx hb dX0_hoursUntilNoIce_43 hl (k := 1) rfl (nI_succ _).symm (by decide) rfl (fun ls hl => ?_)
        refine lv_goto (tgt := 9) hx hb dX0_hoursUntilNoIce_46 (by decide) ?_
        exact ih (j + 1) (by omega) _ (by rw [hf]; rfl) (by rw [← hR, fd0, if_neg (by rw [← hf]; exact c_17)]) _ _ hP hD hS _ (lv_sub hl [0, 1, 2] rfl)
      ·
        refine lv_iload_n hx hb dX0_hoursUntilNoIce_20 rfl (lv_at hl 0 rfl) ?_
        exact e0_i hx hb hr hlocks hP hS dX0_hoursUntilNoIce_21 (by decide) (by decide) (by rw [← hR, fd0, if_pos (by rw [← hf]; exact c_17)])
  exact lp0 1000 0 rfl _ rfl rfl _ _ hP hD hS _ (lv_sub hl [0, 1, 2] rfl)
