set_option maxHeartbeats 4000000 in
set_option maxRecDepth 100000 in
theorem mX4_pass (l : Launch) (D : va_G) (cI cC cT cL : ClassId) (M : Nat → Nat) (th : Int32) (nc nt : Nat) (f k g : Nat → Int32) (u : Int32) (hnc : nc ≤ 4) (hnt : nt ≤ 6) (hI : Inv f) (hg : Gd g) (h : Nat) (hh : h < 2 ^ 29) (h0 : f 0 = nI h) : M0 l yX4_pass wsX4_pass ({ frames := 4, cells := 0, slots := 0, locals := 87 } : Room) D (TY cI cC cT cL) [.ref (M 0), .int u] (MW cI M th nc nt f k g) (some (.int (sel (kPass u) (rep (hourF nc nt g) u.toNatClampNeg f 5 - f 5) 0))) (MW cI M (nI (kPass u)) nc nt (sel (kPass u) (rep (hourF nc nt g) u.toNatClampNeg f) f) k g) 0 0 := by
  refine M0_of (cc := cX4_pass) (maxL := 4) (ret := (some .int)) (by decide +kernel) rfl (Nat.le_of_ble_eq_true rfl) ?_
  intro p e s m args below meth c A0 B ls hl
  obtain ⟨hx, hb, hml, hr, hown, hts, hlocks, hK, hP, hD, hA, hST, hnm⟩ := B
  have hown : s.vm.findClass RX4 = some m.cls := hown
  have hS : va_S A0 s.heap s.heap [] := va_S.rf
  have hl : lv_has ls 4 [(0, .ref (M 0)), (1, .int u)] := hl
  refine lv_aload_n hx hb dX4_pass_0 rfl (lv_at hl 0 rfl) ?_
  refine lv_iconst (v := 0) hx hb dX4_pass_1 (by decide) ?_
  refine w_put (C := RX4) hx hb hts iX4_pass_X4 tyX4_ok nmX4 hown hK hP hD hS 0 rfl rfl 0 (by decide) fX4_pass_19 rfl rfl rfl rfl (Nat.le_of_ble_eq_true rfl) (ws' := MW cI M 0 nc nt f k g) rfl dX4_pass_2 (fun H locs hP hD hS => ?_)
  refine lv_iload_n hx hb dX4_pass_5 rfl (lv_at hl 1 rfl) ?_
  refine lv_iconst (v := 1) hx hb dX4_pass_6 (by decide) ?_
  refine lv_sipush (v := 168) hx hb dX4_pass_7 (by decide) ?_
  refine c0_S (As := [.int u, .int 1, .int 168]) (rest := []) ⟨hx, hb, hml, hown, hts⟩ (mX4_isIn l D cI cC cT cL u 1 168) (va_cwS 3 hts gX4_pass_X4_isIn rfl rfl rfl pX4_isIn ⟨Nat.le_of_ble_eq_true rfl, Nat.le_of_ble_eq_true rfl⟩) hK hP hD hS hA hST (Jn_nil _) rfl hl.1 rfl (Nat.le_of_ble_eq_true rfl) dX4_pass_10 ⟨Nat.le_of_ble_eq_true rfl, Nat.le_of_ble_eq_true rfl⟩ rfl (fun H locs hP hD hS => ?_)
  refine lv_if_ne (tgt := 22) hx hb dX4_pass_13 (by decide) (fun c_13 => ?_) (fun c_13 => ?_)
  ·
    obtain ⟨r, hr9, hr1, er⟩ := cIn_1 (inB_t c_13)
    subst er
    refine lv_aload_n hx hb dX4_pass_22 rfl (lv_at hl 0 rfl) ?_
    refine w_get hx hb hts iX4_pass_X4 hown hK hP 0 rfl rfl 3 (by decide) fX4_pass_9 rfl rfl dX4_pass_23 ?_
    refine lv_iconst (v := 5) hx hb dX4_pass_26 (by decide) ?_
    refine w_ild hx hb hK hP 1 0 rfl rfl 5 rfl (by decide) (by decide) (v := f 5) rfl dX4_pass_27 ?_
    refine lv_istore_n (lv' := [(2, .int (f 5)), (0, .ref (M 0)), (1, .int (nI r))]) hx hb dX4_pass_28 rfl hl (by decide) rfl (fun ls hl => ?_)
    refine lv_iconst (v := 0) hx hb dX4_pass_29 (by decide) ?_
    refine lv_istore_n (lv' := [(3, .int 0), (2, .int (f 5)), (0, .ref (M 0)), (1, .int (nI r))]) hx hb dX4_pass_30 rfl hl (by decide) rfl (fun ls hl => ?_)
    have lp0 : ∀ (n j : Nat), j + n = r → ∀ (H : Heap) (locs : List Loc), va_P D vwCl (MW cI M 0 nc nt (rep (hourF nc nt g) j f) k g) H → va_D A0 (MW cI M 0 nc nt (rep (hourF nc nt g) j f) k g) → va_S A0 s.heap H locs → ∀ ls, lv_has ls 4 [(3, .int (nI j)), (2, .int (f 5)), (1, .int (nI r)), (0, .ref (M 0))] → W p l e ({ frames := 4, cells := 0, slots := 0, locals := 87 } : Room) s m args below meth c H locs 0 0 (Q0 below D (some (.int (sel (kPass (nI r)) (rep (hourF nc nt g) (nI r).toNatClampNeg f 5 - f 5) 0))) (MW cI M (nI (kPass (nI r))) nc nt (sel (kPass (nI r)) (rep (hourF nc nt g) (nI r).toNatClampNeg f) f) k g) A0 args s 0 0) (F0 m 31 ls []) := by
      intro n
      induction n with
      | zero =>
        intro j hj   H locs hP hD hS ls hl
        have hje : r = j := by omega
        subst hje
        refine lv_iload_n hx hb dX4_pass_31 rfl (lv_at hl 0 rfl) ?_
        refine lv_iload_n hx hb dX4_pass_32 rfl (lv_at hl 2 rfl) ?_
        refine lv_icmp_ge (tgt := 46) hx hb dX4_pass_33 (by decide) (fun c_33 => ?_) (fun c_33 => ?_)
        rotate_left
        · exact absurd (Int32.le_refl _) c_33
        refine lv_aload_n hx hb dX4_pass_46 rfl (lv_at hl 3 rfl) ?_
        refine w_get hx hb hts iX4_pass_X4 hown hK hP 0 rfl rfl 3 (by decide) fX4_pass_9 rfl rfl dX4_pass_47 ?_
        refine lv_iconst (v := 5) hx hb dX4_pass_50 (by decide) ?_
        refine w_ild hx hb hK hP 1 0 rfl rfl 5 rfl (by decide) (by decide) (v := (rep (hourF nc nt g) r f) 5) rfl dX4_pass_51 ?_
        refine lv_iload_n hx hb dX4_pass_52 rfl (lv_at hl 1 rfl) ?_
        refine lv_isub hx hb dX4_pass_53 ?_
        have hK9 : kPass (nI r) = 0 := by rw [kPass, if_pos (inB_t c_13)]
        exact e0_i hx hb hr hlocks (P_eq (by first | (rw [hK9, sel_0, nI_clamp (by omega), nI_clamp (by omega), nI_clamp (by omega)] <;> rfl) | (rw [hK9, sel_0, nI_clamp (by omega), nI_clamp (by omega)] <;> rfl) | (rw [hK9, sel_0, nI_clamp (by omega)] <;> rfl) | (rw [hK9, sel_0] <;> rfl) | (rw [hK9] <;> rfl)) hP) hS dX4_pass_54 (by decide) (by decide) (by first | (rw [hK9, sel_0, nI_clamp (by omega), nI_clamp (by omega), nI_clamp (by omega)] <;> rfl) | (rw [hK9, sel_0, nI_clamp (by omega), nI_clamp (by omega)] <;> rfl) | (rw [hK9, sel_0, nI_clamp (by omega)] <;> rfl) | (rw [hK9, sel_0] <;> rfl) | (rw [hK9] <;> rfl))
      | succ n ih =>
        intro j hj   H locs hP hD hS ls hl
        refine lv_iload_n hx hb dX4_pass_31 rfl (lv_at hl 0 rfl) ?_
        refine lv_iload_n hx hb dX4_pass_32 rfl (lv_at hl 2 rfl) ?_
        refine lv_icmp_ge (tgt := 46) hx hb dX4_pass_33 (by decide) (fun c_33 => ?_) (fun c_33 => ?_)
        · exact absurd c_33 (nI_ge (by omega) (by omega))
        refine lv_aload_n hx hb dX4_pass_36 rfl (lv_at hl 3 rfl) ?_
        refine c0_V (As := []) (rest := []) ⟨hx, hb, hml, hown, hts⟩ (mX4_hourOn l D cI cC cT cL M 0 nc nt (rep (hourF nc nt g) j f) k g hnc hnt (Inv.hours hI hg hnc hnt h0 j (by omega)).1 hg (h + j) (by omega) (Inv.hours hI hg hnc hnt h0 j (by omega)).2) (cwV 0 hts gX4_pass_X4_hourOn rfl rfl rfl pX4_hourOn ⟨Nat.le_of_ble_eq_true rfl, Nat.le_of_ble_eq_true rfl⟩) hK hP hD hS hA hST (Jn_mw) 0 rfl rfl rfl rfl hl.1 rfl (Nat.le_of_ble_eq_true rfl) dX4_pass_37 ⟨Nat.le_of_ble_eq_true rfl, Nat.le_of_ble_eq_true rfl⟩ rfl (fun H locs hP hD hS => ?_)
        refine lv_iinc (v := nI (j + 1)) (lv' := [(3, .int (nI (j + 1))), (2, .int (f 5)), (1, .int (nI r)), (0, .ref (M 0))]) hx hb dX4_pass_40 hl (k := 0) rfl (nI_succ _).symm (by decide) rfl (fun ls hl => ?_)
        refine lv_goto (tgt := 31) hx hb dX4_pass_43 (by decide) ?_
        exact ih (j + 1) (by omega) _ _ hP hD hS _ (lv_sub hl [0, 1, 2, 3] rfl)
    exact lp0 r 0 (by omega) _ _ hP hD hS _ (lv_sub hl [0, 1, 3, 2] rfl)
  ·
    refine lv_aload_n hx hb dX4_pass_16 rfl (lv_at hl 0 rfl) ?_
    refine lv_iconst (v := 1) hx hb dX4_pass_17 (by decide) ?_
    refine c0_V (As := [.int 1]) (rest := []) ⟨hx, hb, hml, hown, hts⟩ (mX4_no l D cI cC cT cL M 0 nc nt f k g 1) (cwV 1 hts gX4_pass_X4_no rfl rfl rfl pX4_no ⟨Nat.le_of_ble_eq_true rfl, Nat.le_of_ble_eq_true rfl⟩) hK hP hD hS hA hST (Jn_mw) 0 rfl rfl rfl rfl hl.1 rfl (Nat.le_of_ble_eq_true rfl) dX4_pass_18 ⟨Nat.le_of_ble_eq_true rfl, Nat.le_of_ble_eq_true rfl⟩ rfl (fun H locs hP hD hS => ?_)
    have hK9 : kPass u = 1 := by rw [kPass, if_neg (inB_f c_13)]
    exact e0_i hx hb hr hlocks (P_eq (by (rw [hK9] <;> rfl)) hP) hS dX4_pass_21 (by decide) (by decide) (by (rw [hK9] <;> rfl))

set_option maxHeartbeats 4000000 in
set_option maxRecDepth 100000 in
theorem mX4_done (l : Launch) (D : va_G) (cI cC cT cL : ClassId) (M : Nat → Nat) (th : Int32) (nc nt : Nat) (f k g : Nat → Int32) (u : Int32) (hnc : nc ≤ 4) (hnt : nt ≤ 6) (hI : Inv f) (hg : Gd g) (h : Nat) (hh : h < 2 ^ 29) (h0 : f 0 = nI h) : M0 l yX4_done wsX4_done ({ frames := 4, cells := 0, slots := 0, locals := 100 } : Room) D (TY cI cC cT cL) [.ref (M 0), .int u] (MW cI M th nc nt f k g) (some (.int (sel (kDone nc u) (doneC f g h u.toNatClampNeg) 0))) (MW cI M (nI (kDone nc u)) nc nt f (sel (kDone nc u) (if f (8 + 3 * u.toNatClampNeg) = 0 then k else (va_cpy f k 0 0 37)) k) g) 0 0 := by
  refine M0_of (cc := cX4_done) (maxL := 4) (ret := (some .int)) (by decide +kernel) rfl (Nat.le_of_ble_eq_true rfl) ?_
  intro p e s m args below meth c A0 B ls hl
  obtain ⟨hx, hb, hml, hr, hown, hts, hlocks, hK, hP, hD, hA, hST, hnm⟩ := B
  have hown : s.vm.findClass RX4 = some m.cls := hown
  have hS : va_S A0 s.heap s.heap [] := va_S.rf
  have hl : lv_has ls 4 [(0, .ref (M 0)), (1, .int u)] := hl
  refine lv_aload_n hx hb dX4_done_0 rfl (lv_at hl 0 rfl) ?_
  refine lv_iconst (v := 0) hx hb dX4_done_1 (by decide) ?_
  refine w_put (C := RX4) hx hb hts iX4_done_X4 tyX4_ok nmX4 hown hK hP hD hS 0 rfl rfl 0 (by decide) fX4_done_19 rfl rfl rfl rfl (Nat.le_of_ble_eq_true rfl) (ws' := MW cI M 0 nc nt f k g) rfl dX4_done_2 (fun H locs hP hD hS => ?_)
  refine lv_aload_n hx hb dX4_done_5 rfl (lv_at hl 0 rfl) ?_
  refine lv_iload_n hx hb dX4_done_6 rfl (lv_at hl 1 rfl) ?_
  refine c0_V (As := [.int u]) (rest := []) ⟨hx, hb, hml, hown, hts⟩ (mX4_isChurn l D cI cC cT cL M 0 nc nt f k g u) (cwV 1 hts gX4_done_X4_isChurn rfl rfl rfl pX4_isChurn ⟨Nat.le_of_ble_eq_true rfl, Nat.le_of_ble_eq_true rfl⟩) hK hP hD hS hA hST (Jn_mw) 0 rfl rfl rfl rfl hl.1 rfl (Nat.le_of_ble_eq_true rfl) dX4_done_7 ⟨Nat.le_of_ble_eq_true rfl, Nat.le_of_ble_eq_true rfl⟩ rfl (fun H locs hP hD hS => ?_)
  refine lv_if_ne (tgt := 19) hx hb dX4_done_10 (by decide) (fun c_10 => ?_) (fun c_10 => ?_)
  ·
    obtain ⟨i, hi, ei⟩ := inR_n (by omega) (inB_Rt (by omega) c_10)
    subst ei
    refine lv_aload_n hx hb dX4_done_19 rfl (lv_at hl 0 rfl) ?_
    refine lv_iload_n hx hb dX4_done_20 rfl (lv_at hl 1 rfl) ?_
    refine lv_iconst (v := 1) hx hb dX4_done_21 (by decide) ?_
    refine c0_V (As := [.int (nI i), .int 1]) (rest := []) ⟨hx, hb, hml, hown, hts⟩ (mX4_ch l D cI cC cT cL M 0 nc nt f k g (nI i) 1 i 1 (8 + 3 * i) rfl rfl (by omega) (by omega)) (cwV 2 hts gX4_done_X4_ch rfl rfl rfl pX4_ch ⟨Nat.le_of_ble_eq_true rfl, Nat.le_of_ble_eq_true rfl⟩) hK hP hD hS hA hST (Jn_mw) 0 rfl rfl rfl rfl hl.1 rfl (Nat.le_of_ble_eq_true rfl) dX4_done_22 ⟨Nat.le_of_ble_eq_true rfl, Nat.le_of_ble_eq_true rfl⟩ rfl (fun H locs hP hD hS => ?_)
    refine lv_if_ne (tgt := 30) hx hb dX4_done_25 (by decide) (fun c_25 => ?_) (fun c_25 => ?_)
    ·
      have hp9 : 0 < f (8 + 3 * i) := bd_pos (hI.2.1 i (by omega)).2.1 c_25
      refine lv_aload_n hx hb dX4_done_30 rfl (lv_at hl 0 rfl) ?_
      refine c0_V (As := []) (rest := []) ⟨hx, hb, hml, hown, hts⟩ (mX4_keep l D cI cC cT cL M 0 nc nt f k g ) (cwV 0 hts gX4_done_X4_keep rfl rfl rfl pX4_keep ⟨Nat.le_of_ble_eq_true rfl, Nat.le_of_ble_eq_true rfl⟩) hK hP hD hS hA hST (Jn_mw) 0 rfl rfl rfl rfl hl.1 rfl (Nat.le_of_ble_eq_true rfl) dX4_done_31 ⟨Nat.le_of_ble_eq_true rfl, Nat.le_of_ble_eq_true rfl⟩ rfl (fun H locs hP hD hS => ?_)
      refine lv_iconst (v := 0) hx hb dX4_done_34 (by decide) ?_
      refine lv_istore_n (lv' := [(2, .int 0), (0, .ref (M 0)), (1, .int (nI i))]) hx hb dX4_done_35 rfl hl (by decide) rfl (fun ls hl => ?_)
      have lp0 : ∀ (n j : Nat), j + n = 100 → (fd50 (firmN g h (f (7 + 3 * i)) (f (9 + 3 * i))) 101 0 = fd50 (firmN g h (f (7 + 3 * i)) (f (9 + 3 * i))) (n + 1) j) → ∀ (H : Heap) (locs : List Loc), va_P D vwCl (MW cI M 0 nc nt (rep (hourF nc nt g) j f) (va_cpy f k 0 0 37) g) H → va_D A0 (MW cI M 0 nc nt (rep (hourF nc nt g) j f) (va_cpy f k 0 0 37) g) → va_S A0 s.heap H locs → ∀ ls, lv_has ls 4 [(2, .int (nI j)), (1, .int (nI i)), (0, .ref (M 0))] → W p l e ({ frames := 4, cells := 0, slots := 0, locals := 100 } : Room) s m args below meth c H locs 0 0 (Q0 below D (some (.int (sel (kDone nc (nI i)) (doneC f g h (nI i).toNatClampNeg) 0))) (MW cI M (nI (kDone nc (nI i))) nc nt f (sel (kDone nc (nI i)) (if f (8 + 3 * (nI i).toNatClampNeg) = 0 then k else (va_cpy f k 0 0 37)) k) g) A0 args s 0 0) (F0 m 36 ls []) := by
        intro n
        induction n with
        | zero =>
          intro j hj  hR H locs hP hD hS ls hl
          have hje : 100 = j := by omega
          subst hje
          have hfm := (hours_ch hI hg hnc hnt h0 hi hp9 100 (by omega)).2.2
          refine lv_aload_n hx hb dX4_done_36 rfl (lv_at hl 2 rfl) ?_
          refine lv_iload_n hx hb dX4_done_37 rfl (lv_at hl 1 rfl) ?_
          refine lv_iconst (v := 2) hx hb dX4_done_38 (by decide) ?_
          refine c0_V (As := [.int (nI i), .int 2]) (rest := []) ⟨hx, hb, hml, hown, hts⟩ (mX4_ch l D cI cC cT cL M 0 nc nt (rep (hourF nc nt g) 100 f) (va_cpy f k 0 0 37) g (nI i) 2 i 2 (9 + 3 * i) rfl rfl (by omega) (by omega)) (cwV 2 hts gX4_done_X4_ch rfl rfl rfl pX4_ch ⟨Nat.le_of_ble_eq_true rfl, Nat.le_of_ble_eq_true rfl⟩) hK hP hD hS hA hST (Jn_mw) 0 rfl rfl rfl rfl hl.1 rfl (Nat.le_of_ble_eq_true rfl) dX4_done_39 ⟨Nat.le_of_ble_eq_true rfl, Nat.le_of_ble_eq_true rfl⟩ rfl (fun H locs hP hD hS => ?_)
          refine lv_bipush (v := 50) hx hb dX4_done_42 (by decide) ?_
          refine lv_icmp_ge (tgt := 63) hx hb dX4_done_44 (by decide) (fun c_44 => ?_) (fun c_44 => ?_)
          ·
            refine lv_aload_n hx hb dX4_done_63 rfl (lv_at hl 2 rfl) ?_
            refine lv_iload_n hx hb dX4_done_64 rfl (lv_at hl 1 rfl) ?_
            refine lv_iconst (v := 2) hx hb dX4_done_65 (by decide) ?_
            refine c0_V (As := [.int (nI i), .int 2]) (rest := []) ⟨hx, hb, hml, hown, hts⟩ (mX4_ch l D cI cC cT cL M 0 nc nt (rep (hourF nc nt g) 100 f) (va_cpy f k 0 0 37) g (nI i) 2 i 2 (9 + 3 * i) rfl rfl (by omega) (by omega)) (cwV 2 hts gX4_done_X4_ch rfl rfl rfl pX4_ch ⟨Nat.le_of_ble_eq_true rfl, Nat.le_of_ble_eq_true rfl⟩) hK hP hD hS hA hST (Jn_mw) 0 rfl rfl rfl rfl hl.1 rfl (Nat.le_of_ble_eq_true rfl) dX4_done_66 ⟨Nat.le_of_ble_eq_true rfl, Nat.le_of_ble_eq_true rfl⟩ rfl (fun H locs hP hD hS => ?_)
            refine lv_bipush (v := 50) hx hb dX4_done_69 (by decide) ?_
            refine lv_icmp_ge (tgt := 78) hx hb dX4_done_71 (by decide) (fun c_71 => ?_) (fun c_71 => ?_)
            rotate_left
            · exact absurd c_44 c_71
            refine lv_iload_n hx hb dX4_done_78 rfl (lv_at hl 0 rfl) ?_
            refine lv_istore_n (lv' := [(3, .int (nI 100)), (2, .int (nI 100)), (1, .int (nI i)), (0, .ref (M 0))]) hx hb dX4_done_79 rfl hl (by decide) rfl (fun ls hl => ?_)
            refine lv_aload_n hx hb dX4_done_80 rfl (lv_at hl 3 rfl) ?_
            refine c0_V (As := []) (rest := []) ⟨hx, hb, hml, hown, hts⟩ (mX4_bringBack l D cI cC cT cL M 0 nc nt (rep (hourF nc nt g) 100 f) (va_cpy f k 0 0 37) g ) (cwV 0 hts gX4_done_X4_bringBack rfl rfl rfl pX4_bringBack ⟨Nat.le_of_ble_eq_true rfl, Nat.le_of_ble_eq_true rfl⟩) hK hP hD hS hA hST (Jn_mw) 0 rfl rfl rfl rfl hl.1 rfl (Nat.le_of_ble_eq_true rfl) dX4_done_81 ⟨Nat.le_of_ble_eq_true rfl, Nat.le_of_ble_eq_true rfl⟩ rfl (fun H locs hP hD hS => ?_)
            refine lv_iload_n hx hb dX4_done_84 rfl (lv_at hl 0 rfl) ?_
            have hK9 : kDone nc (nI i) = 0 := by rw [kDone, if_pos (inB_Rt (by omega) c_10)]
            have hP := P_arr hP 1 rfl (f' := f) kp
            exact e0_i hx hb hr hlocks (P_eq (by rw [hK9, sel_0, nI_clamp (by omega), if_neg c_25] <;> rfl) hP) hS dX4_done_85 (by decide) (by decide) (by rw [hK9, sel_0, nI_clamp (by omega), doneC, if_neg c_25, hR, fd50, if_pos (by rw [← hfm]; exact c_44)])
          ·
            refine lv_iload_n hx hb dX4_done_47 rfl (lv_at hl 0 rfl) ?_
            refine lv_bipush (v := 100) hx hb dX4_done_48 (by decide) ?_
            refine lv_icmp_ge (tgt := 63) hx hb dX4_done_50 (by decide) (fun c_50 => ?_) (fun c_50 => ?_)
            rotate_left
            · exact absurd (by decide) c_50
            refine lv_aload_n hx hb dX4_done_63 rfl (lv_at hl 2 rfl) ?_
            refine lv_iload_n hx hb dX4_done_64 rfl (lv_at hl 1 rfl) ?_
            refine lv_iconst (v := 2) hx hb dX4_done_65 (by decide) ?_
            refine c0_V (As := [.int (nI i), .int 2]) (rest := []) ⟨hx, hb, hml, hown, hts⟩ (mX4_ch l D cI cC cT cL M 0 nc nt (rep (hourF nc nt g) 100 f) (va_cpy f k 0 0 37) g (nI i) 2 i 2 (9 + 3 * i) rfl rfl (by omega) (by omega)) (cwV 2 hts gX4_done_X4_ch rfl rfl rfl pX4_ch ⟨Nat.le_of_ble_eq_true rfl, Nat.le_of_ble_eq_true rfl⟩) hK hP hD hS hA hST (Jn_mw) 0 rfl rfl rfl rfl hl.1 rfl (Nat.le_of_ble_eq_true rfl) dX4_done_66 ⟨Nat.le_of_ble_eq_true rfl, Nat.le_of_ble_eq_true rfl⟩ rfl (fun H locs hP hD hS => ?_)
            refine lv_bipush (v := 50) hx hb dX4_done_69 (by decide) ?_
            refine lv_icmp_ge (tgt := 78) hx hb dX4_done_71 (by decide) (fun c_71 => ?_) (fun c_71 => ?_)
            · exact absurd c_71 c_44
            refine lv_iconst (v := (-1)) hx hb dX4_done_74 (by decide) ?_
            refine lv_goto (tgt := 79) hx hb dX4_done_75 (by decide) ?_
            refine lv_istore_n (lv' := [(3, .int (-1)), (2, .int (nI 100)), (1, .int (nI i)), (0, .ref (M 0))]) hx hb dX4_done_79 rfl hl (by decide) rfl (fun ls hl => ?_)
            refine lv_aload_n hx hb dX4_done_80 rfl (lv_at hl 3 rfl) ?_
            refine c0_V (As := []) (rest := []) ⟨hx, hb, hml, hown, hts⟩ (mX4_bringBack l D cI cC cT cL M 0 nc nt (rep (hourF nc nt g) 100 f) (va_cpy f k 0 0 37) g ) (cwV 0 hts gX4_done_X4_bringBack rfl rfl rfl pX4_bringBack ⟨Nat.le_of_ble_eq_true rfl, Nat.le_of_ble_eq_true rfl⟩) hK hP hD hS hA hST (Jn_mw) 0 rfl rfl rfl rfl hl.1 rfl (Nat.le_of_ble_eq_true rfl) dX4_done_81 ⟨Nat.le_of_ble_eq_true rfl, Nat.le_of_ble_eq_true rfl⟩ rfl (fun H locs hP hD hS => ?_)
            refine lv_iload_n hx hb dX4_done_84 rfl (lv_at hl 0 rfl) ?_
            have hK9 : kDone nc (nI i) = 0 := by rw [kDone, if_pos (inB_Rt (by omega) c_10)]
            have hP := P_arr hP 1 rfl (f' := f) kp
            exact e0_i hx hb hr hlocks (P_eq (by rw [hK9, sel_0, nI_clamp (by omega), if_neg c_25] <;> rfl) hP) hS dX4_done_85 (by decide) (by decide) (by rw [hK9, sel_0, nI_clamp (by omega), doneC, if_neg c_25, hR, fd50, if_neg (by rw [← hfm]; exact c_44), fd50])
        | succ n ih =>
          intro j hj  hR H locs hP hD hS ls hl
          have hfm := (hours_ch hI hg hnc hnt h0 hi hp9 j (by omega)).2.2
          refine lv_aload_n hx hb dX4_done_36 rfl (lv_at hl 2 rfl) ?_
          refine lv_iload_n hx hb dX4_done_37 rfl (lv_at hl 1 rfl) ?_
          refine lv_iconst (v := 2) hx hb dX4_done_38 (by decide) ?_
          refine c0_V (As := [.int (nI i), .int 2]) (rest := []) ⟨hx, hb, hml, hown, hts⟩ (mX4_ch l D cI cC cT cL M 0 nc nt (rep (hourF nc nt g) j f) (va_cpy f k 0 0 37) g (nI i) 2 i 2 (9 + 3 * i) rfl rfl (by omega) (by omega)) (cwV 2 hts gX4_done_X4_ch rfl rfl rfl pX4_ch ⟨Nat.le_of_ble_eq_true rfl, Nat.le_of_ble_eq_true rfl⟩) hK hP hD hS hA hST (Jn_mw) 0 rfl rfl rfl rfl hl.1 rfl (Nat.le_of_ble_eq_true rfl) dX4_done_39 ⟨Nat.le_of_ble_eq_true rfl, Nat.le_of_ble_eq_true rfl⟩ rfl (fun H locs hP hD hS => ?_)
          refine lv_bipush (v := 50) hx hb dX4_done_42 (by decide) ?_
          refine lv_icmp_ge (tgt := 63) hx hb dX4_done_44 (by decide) (fun c_44 => ?_) (fun c_44 => ?_)
          ·
            refine lv_aload_n hx hb dX4_done_63 rfl (lv_at hl 2 rfl) ?_
            refine lv_iload_n hx hb dX4_done_64 rfl (lv_at hl 1 rfl) ?_
            refine lv_iconst (v := 2) hx hb dX4_done_65 (by decide) ?_
            refine c0_V (As := [.int (nI i), .int 2]) (rest := []) ⟨hx, hb, hml, hown, hts⟩ (mX4_ch l D cI cC cT cL M 0 nc nt (rep (hourF nc nt g) j f) (va_cpy f k 0 0 37) g (nI i) 2 i 2 (9 + 3 * i) rfl rfl (by omega) (by omega)) (cwV 2 hts gX4_done_X4_ch rfl rfl rfl pX4_ch ⟨Nat.le_of_ble_eq_true rfl, Nat.le_of_ble_eq_true rfl⟩) hK hP hD hS hA hST (Jn_mw) 0 rfl rfl rfl rfl hl.1 rfl (Nat.le_of_ble_eq_true rfl) dX4_done_66 ⟨Nat.le_of_ble_eq_true rfl, Nat.le_of_ble_eq_true rfl⟩ rfl (fun H locs hP hD hS => ?_)
            refine lv_bipush (v := 50) hx hb dX4_done_69 (by decide) ?_
            refine lv_icmp_ge (tgt := 78) hx hb dX4_done_71 (by decide) (fun c_71 => ?_) (fun c_71 => ?_)
            rotate_left
            · exact absurd c_44 c_71
            refine lv_iload_n hx hb dX4_done_78 rfl (lv_at hl 0 rfl) ?_
            refine lv_istore_n (lv' := [(3, .int (nI j)), (2, .int (nI j)), (1, .int (nI i)), (0, .ref (M 0))]) hx hb dX4_done_79 rfl hl (by decide) rfl (fun ls hl => ?_)
            refine lv_aload_n hx hb dX4_done_80 rfl (lv_at hl 3 rfl) ?_
            refine c0_V (As := []) (rest := []) ⟨hx, hb, hml, hown, hts⟩ (mX4_bringBack l D cI cC cT cL M 0 nc nt (rep (hourF nc nt g) j f) (va_cpy f k 0 0 37) g ) (cwV 0 hts gX4_done_X4_bringBack rfl rfl rfl pX4_bringBack ⟨Nat.le_of_ble_eq_true rfl, Nat.le_of_ble_eq_true rfl⟩) hK hP hD hS hA hST (Jn_mw) 0 rfl rfl rfl rfl hl.1 rfl (Nat.le_of_ble_eq_true rfl) dX4_done_81 ⟨Nat.le_of_ble_eq_true rfl, Nat.le_of_ble_eq_true rfl⟩ rfl (fun H locs hP hD hS => ?_)
            refine lv_iload_n hx hb dX4_done_84 rfl (lv_at hl 0 rfl) ?_
            have hK9 : kDone nc (nI i) = 0 := by rw [kDone, if_pos (inB_Rt (by omega) c_10)]
            have hP := P_arr hP 1 rfl (f' := f) kp
            exact e0_i hx hb hr hlocks (P_eq (by rw [hK9, sel_0, nI_clamp (by omega), if_neg c_25] <;> rfl) hP) hS dX4_done_85 (by decide) (by decide) (by rw [hK9, sel_0, nI_clamp (by omega), doneC, if_neg c_25, hR, fd50, if_pos (by rw [← hfm]; exact c_44)])
          ·
            refine lv_iload_n hx hb dX4_done_47 rfl (lv_at hl 0 rfl) ?_
            refine lv_bipush (v := 100) hx hb dX4_done_48 (by decide) ?_
            refine lv_icmp_ge (tgt := 63) hx hb dX4_done_50 (by decide) (fun c_50 => ?_) (fun c_50 => ?_)
            · exact absurd c_50 (nI_ge (b := 100) (by omega) (by decide))
            refine lv_aload_n hx hb dX4_done_53 rfl (lv_at hl 2 rfl) ?_
            refine c0_V (As := []) (rest := []) ⟨hx, hb, hml, hown, hts⟩ (mX4_hourOn l D cI cC cT cL M 0 nc nt (rep (hourF nc nt g) j f) (va_cpy f k 0 0 37) g hnc hnt (Inv.hours hI hg hnc hnt h0 j (by omega)).1 hg (h + j) (by omega) (Inv.hours hI hg hnc hnt h0 j (by omega)).2) (cwV 0 hts gX4_done_X4_hourOn rfl rfl rfl pX4_hourOn ⟨Nat.le_of_ble_eq_true rfl, Nat.le_of_ble_eq_true rfl⟩) hK hP hD hS hA hST (Jn_mw) 0 rfl rfl rfl rfl hl.1 rfl (Nat.le_of_ble_eq_true rfl) dX4_done_54 ⟨Nat.le_of_ble_eq_true rfl, Nat.le_of_ble_eq_true rfl⟩ rfl (fun H locs hP hD hS => ?_)
            refine lv_iinc (v := nI (j + 1)) (lv' := [(2, .int (nI (j + 1))), (1, .int (nI i)), (0, .ref (M 0))]) hx hb dX4_done_57 hl (k := 0) rfl (nI_succ _).symm (by decide) rfl (fun ls hl => ?_)
            refine lv_goto (tgt := 36) hx hb dX4_done_60 (by decide) ?_
            exact ih (j + 1) (by omega) (by rw [hR, fd50, if_neg (by rw [← hfm]; exact c_44)]) _ _ hP hD hS _ (lv_sub hl [0, 1, 2] rfl)
      exact lp0 100 0 (by omega) rfl _ _ hP hD hS _ (lv_sub hl [0, 2, 1] rfl)
    ·
      refine lv_iconst (v := (-1)) hx hb dX4_done_28 (by decide) ?_
      have hK9 : kDone nc (nI i) = 0 := by rw [kDone, if_pos (inB_Rt (by omega) c_10)]
      exact e0_i hx hb hr hlocks (P_eq (by rw [hK9, sel_0, nI_clamp (by omega), if_pos c_25] <;> rfl) hP) hS dX4_done_29 (by decide) (by decide) (by rw [hK9, sel_0, nI_clamp (by omega), doneC, if_pos c_25])
  ·
    refine lv_aload_n hx hb dX4_done_13 rfl (lv_at hl 0 rfl) ?_
    refine lv_iconst (v := 1) hx hb dX4_done_14 (by decide) ?_
    refine c0_V (As := [.int 1]) (rest := []) ⟨hx, hb, hml, hown, hts⟩ (mX4_no l D cI cC cT cL M 0 nc nt f k g 1) (cwV 1 hts gX4_done_X4_no rfl rfl rfl pX4_no ⟨Nat.le_of_ble_eq_true rfl, Nat.le_of_ble_eq_true rfl⟩) hK hP hD hS hA hST (Jn_mw) 0 rfl rfl rfl rfl hl.1 rfl (Nat.le_of_ble_eq_true rfl) dX4_done_15 ⟨Nat.le_of_ble_eq_true rfl, Nat.le_of_ble_eq_true rfl⟩ rfl (fun H locs hP hD hS => ?_)
    have hK9 : kDone nc u = 1 := by rw [kDone, if_neg (inB_Rf (by omega) c_10)]
    exact e0_i hx hb hr hlocks (P_eq (by (rw [hK9] <;> rfl)) hP) hS dX4_done_18 (by decide) (by decide) (by (rw [hK9] <;> rfl))

set_option maxHeartbeats 4000000 in
set_option maxRecDepth 100000 in
theorem mX4_foresee (l : Launch) (D : va_G) (cI cC cT cL : ClassId) (M : Nat → Nat) (th : Int32) (nc nt : Nat) (f k g : Nat → Int32) (u v : Int32) (hnc : nc ≤ 4) (hnt : nt ≤ 6) (hI : Inv f) (hg : Gd g) (h : Nat) (hh : h < 2 ^ 29) (h0 : f 0 = nI h) : M0 l yX4_foresee wsX4_foresee ({ frames := 4, cells := 1, slots := 10, locals := 100 } : Room) D (TY cI cC cT cL) [.ref (M 0), .int u, .int v] (MW cI M th nc nt f k g) (some (.int (sel (kFore u v) (cntF nt (rep (hourF nc nt g) u.toNatClampNeg f) g v.toNatClampNeg) 0))) (MW cI M (nI (kFore u v)) nc nt f (sel (kFore u v) (va_cpy f k 0 0 37) k) g) 1 10 := by
  refine M0_of (cc := cX4_foresee) (maxL := 4) (ret := (some .int)) (by decide +kernel) rfl (Nat.le_of_ble_eq_true rfl) ?_
  intro p e s m args below meth c A0 B ls hl
  obtain ⟨hx, hb, hml, hr, hown, hts, hlocks, hK, hP, hD, hA, hST, hnm⟩ := B
  have hown : s.vm.findClass RX4 = some m.cls := hown
  have hS : va_S A0 s.heap s.heap [] := va_S.rf
  have hl : lv_has ls 4 [(0, .ref (M 0)), (1, .int u), (2, .int v)] := hl
  refine lv_aload_n hx hb dX4_foresee_0 rfl (lv_at hl 0 rfl) ?_
  refine lv_iconst (v := 0) hx hb dX4_foresee_1 (by decide) ?_
  refine w_put (C := RX4) hx hb hts iX4_foresee_X4 tyX4_ok nmX4 hown hK hP hD hS 0 rfl rfl 0 (by decide) fX4_foresee_19 rfl rfl rfl rfl (Nat.le_of_ble_eq_true rfl) (ws' := MW cI M 0 nc nt f k g) rfl dX4_foresee_2 (fun H locs hP hD hS => ?_)
  refine lv_iload_n hx hb dX4_foresee_5 rfl (lv_at hl 1 rfl) ?_
  refine lv_iconst (v := 1) hx hb dX4_foresee_6 (by decide) ?_
  refine lv_sipush (v := 168) hx hb dX4_foresee_7 (by decide) ?_
  refine c0_S (As := [.int u, .int 1, .int 168]) (rest := []) ⟨hx, hb, hml, hown, hts⟩ (mX4_isIn l D cI cC cT cL u 1 168) (va_cwS 3 hts gX4_foresee_X4_isIn rfl rfl rfl pX4_isIn ⟨Nat.le_of_ble_eq_true rfl, Nat.le_of_ble_eq_true rfl⟩) hK hP hD hS hA hST (Jn_nil _) rfl hl.1 rfl (Nat.le_of_ble_eq_true rfl) dX4_foresee_10 ⟨Nat.le_of_ble_eq_true rfl, Nat.le_of_ble_eq_true rfl⟩ rfl (fun H locs hP hD hS => ?_)
  refine lv_if_ne (tgt := 22) hx hb dX4_foresee_13 (by decide) (fun c_13 => ?_) (fun c_13 => ?_)
  ·
    refine lv_iload_n hx hb dX4_foresee_22 rfl (lv_at hl 2 rfl) ?_
    refine lv_iconst (v := 2) hx hb dX4_foresee_23 (by decide) ?_
    refine lv_icmp_eq (tgt := 44) hx hb dX4_foresee_24 (by decide) (fun c_24 => ?_) (fun c_24 => ?_)
    ·
      obtain ⟨r, hr9, hr1, er⟩ := cIn_1 (inB_t c_13)
      subst er
      subst c_24
      refine lv_aload_n hx hb dX4_foresee_44 rfl (lv_at hl 0 rfl) ?_
      refine c0_V (As := []) (rest := []) ⟨hx, hb, hml, hown, hts⟩ (mX4_keep l D cI cC cT cL M 0 nc nt f k g ) (cwV 0 hts gX4_foresee_X4_keep rfl rfl rfl pX4_keep ⟨Nat.le_of_ble_eq_true rfl, Nat.le_of_ble_eq_true rfl⟩) hK hP hD hS hA hST (Jn_mw) 0 rfl rfl rfl rfl hl.1 rfl (Nat.le_of_ble_eq_true rfl) dX4_foresee_45 ⟨Nat.le_of_ble_eq_true rfl, Nat.le_of_ble_eq_true rfl⟩ rfl (fun H locs hP hD hS => ?_)
      refine lv_iconst (v := 0) hx hb dX4_foresee_48 (by decide) ?_
      refine lv_istore_n (lv' := [(3, .int 0), (0, .ref (M 0)), (1, .int (nI r)), (2, .int (2 : Int32))]) hx hb dX4_foresee_49 rfl hl (by decide) rfl (fun ls hl => ?_)
      have lp0 : ∀ (n j : Nat), j + n = r → ∀ (H : Heap) (locs : List Loc), va_P D vwCl (MW cI M 0 nc nt (rep (hourF nc nt g) j f) (va_cpy f k 0 0 37) g) H → va_D A0 (MW cI M 0 nc nt (rep (hourF nc nt g) j f) (va_cpy f k 0 0 37) g) → va_S A0 s.heap H locs → ∀ ls, lv_has ls 4 [(3, .int (nI j)), (2, .int 2), (1, .int (nI r)), (0, .ref (M 0))] → W p l e ({ frames := 4, cells := 1, slots := 10, locals := 100 } : Room) s m args below meth c H locs 0 0 (Q0 below D (some (.int (sel (kFore (nI r) (2 : Int32)) (cntF nt (rep (hourF nc nt g) (nI r).toNatClampNeg f) g (2 : Int32).toNatClampNeg) 0))) (MW cI M (nI (kFore (nI r) (2 : Int32))) nc nt f (sel (kFore (nI r) (2 : Int32)) (va_cpy f k 0 0 37) k) g) A0 args s 1 10) (F0 m 50 ls []) := by
        intro n
        induction n with
        | zero =>
          intro j hj   H locs hP hD hS ls hl
          have hje : r = j := by omega
          subst hje
          refine lv_iload_n hx hb dX4_foresee_50 rfl (lv_at hl 0 rfl) ?_
          refine lv_iload_n hx hb dX4_foresee_51 rfl (lv_at hl 2 rfl) ?_
          refine lv_icmp_ge (tgt := 65) hx hb dX4_foresee_52 (by decide) (fun c_52 => ?_) (fun c_52 => ?_)
          rotate_left
          · exact absurd (Int32.le_refl _) c_52
          refine lv_aload_n hx hb dX4_foresee_65 rfl (lv_at hl 3 rfl) ?_
          refine lv_iload_n hx hb dX4_foresee_66 rfl (lv_at hl 1 rfl) ?_
          refine c0_V (As := [.int 2]) (rest := []) ⟨hx, hb, hml, hown, hts⟩ (mX4_counted l D cI cC cT cL M 0 nc nt (rep (hourF nc nt g) r f) (va_cpy f k 0 0 37) g 2 2 rfl (by omega) hnt (h + r) (by omega) (Inv.hours hI hg hnc hnt h0 r (by omega)).2) (cwV 1 hts gX4_foresee_X4_counted rfl rfl rfl pX4_counted ⟨Nat.le_of_ble_eq_true rfl, Nat.le_of_ble_eq_true rfl⟩) hK hP hD hS hA hST (Jn_mw) 0 rfl rfl rfl rfl hl.1 rfl (Nat.le_of_ble_eq_true rfl) dX4_foresee_67 ⟨Nat.le_of_ble_eq_true rfl, Nat.le_of_ble_eq_true rfl⟩ rfl (fun H locs hP hD hS => ?_)
          refine lv_istore_n (lv' := [(3, .int (cntF nt (rep (hourF nc nt g) r f) g 2)), (2, .int 2), (1, .int (nI r)), (0, .ref (M 0))]) hx hb dX4_foresee_70 rfl hl (by decide) rfl (fun ls hl => ?_)
          refine lv_aload_n hx hb dX4_foresee_71 rfl (lv_at hl 3 rfl) ?_
          refine c0_V (As := []) (rest := []) ⟨hx, hb, hml, hown, hts⟩ (mX4_bringBack l D cI cC cT cL M 0 nc nt (rep (hourF nc nt g) r f) (va_cpy f k 0 0 37) g ) (cwV 0 hts gX4_foresee_X4_bringBack rfl rfl rfl pX4_bringBack ⟨Nat.le_of_ble_eq_true rfl, Nat.le_of_ble_eq_true rfl⟩) hK hP hD hS hA hST (Jn_mw) 0 rfl rfl rfl rfl hl.1 rfl (Nat.le_of_ble_eq_true rfl) dX4_foresee_72 ⟨Nat.le_of_ble_eq_true rfl, Nat.le_of_ble_eq_true rfl⟩ rfl (fun H locs hP hD hS => ?_)
          refine lv_iload_n hx hb dX4_foresee_75 rfl (lv_at hl 0 rfl) ?_
          have hK9 : kFore (nI r) (2 : Int32) = 0 := by rw [kFore, if_pos (inB_t c_13), if_pos rfl]
          have hP := P_arr hP 1 rfl (f' := f) kp
          exact e0_i hx hb hr hlocks (P_eq (by first | (rw [hK9, sel_0, nI_clamp (by omega), nI_clamp (by omega), nI_clamp (by omega)] <;> rfl) | (rw [hK9, sel_0, nI_clamp (by omega), nI_clamp (by omega)] <;> rfl) | (rw [hK9, sel_0, nI_clamp (by omega)] <;> rfl) | (rw [hK9, sel_0] <;> rfl) | (rw [hK9] <;> rfl)) hP) hS dX4_foresee_76 (by decide) (by decide) (by first | (rw [hK9, sel_0, nI_clamp (by omega), nI_clamp (by omega), nI_clamp (by omega)] <;> rfl) | (rw [hK9, sel_0, nI_clamp (by omega), nI_clamp (by omega)] <;> rfl) | (rw [hK9, sel_0, nI_clamp (by omega)] <;> rfl) | (rw [hK9, sel_0] <;> rfl) | (rw [hK9] <;> rfl))
        | succ n ih =>
          intro j hj   H locs hP hD hS ls hl
          refine lv_iload_n hx hb dX4_foresee_50 rfl (lv_at hl 0 rfl) ?_
          refine lv_iload_n hx hb dX4_foresee_51 rfl (lv_at hl 2 rfl) ?_
          refine lv_icmp_ge (tgt := 65) hx hb dX4_foresee_52 (by decide) (fun c_52 => ?_) (fun c_52 => ?_)
          · exact absurd c_52 (nI_ge (by omega) (by omega))
          refine lv_aload_n hx hb dX4_foresee_55 rfl (lv_at hl 3 rfl) ?_
          refine c0_V (As := []) (rest := []) ⟨hx, hb, hml, hown, hts⟩ (mX4_hourOn l D cI cC cT cL M 0 nc nt (rep (hourF nc nt g) j f) (va_cpy f k 0 0 37) g hnc hnt (Inv.hours hI hg hnc hnt h0 j (by omega)).1 hg (h + j) (by omega) (Inv.hours hI hg hnc hnt h0 j (by omega)).2) (cwV 0 hts gX4_foresee_X4_hourOn rfl rfl rfl pX4_hourOn ⟨Nat.le_of_ble_eq_true rfl, Nat.le_of_ble_eq_true rfl⟩) hK hP hD hS hA hST (Jn_mw) 0 rfl rfl rfl rfl hl.1 rfl (Nat.le_of_ble_eq_true rfl) dX4_foresee_56 ⟨Nat.le_of_ble_eq_true rfl, Nat.le_of_ble_eq_true rfl⟩ rfl (fun H locs hP hD hS => ?_)
          refine lv_iinc (v := nI (j + 1)) (lv' := [(3, .int (nI (j + 1))), (2, .int 2), (1, .int (nI r)), (0, .ref (M 0))]) hx hb dX4_foresee_59 hl (k := 0) rfl (nI_succ _).symm (by decide) rfl (fun ls hl => ?_)
          refine lv_goto (tgt := 50) hx hb dX4_foresee_62 (by decide) ?_
          exact ih (j + 1) (by omega) _ _ hP hD hS _ (lv_sub hl [0, 1, 2, 3] rfl)
      exact lp0 r 0 (by omega) _ _ hP hD hS _ (lv_sub hl [0, 3, 2, 1] rfl)
    ·
      refine lv_iload_n hx hb dX4_foresee_27 rfl (lv_at hl 2 rfl) ?_
      refine lv_bipush (v := 6) hx hb dX4_foresee_28 (by decide) ?_
      refine lv_bipush (v := 9) hx hb dX4_foresee_30 (by decide) ?_
      refine c0_S (As := [.int v, .int 6, .int 9]) (rest := []) ⟨hx, hb, hml, hown, hts⟩ (mX4_isIn l D cI cC cT cL v 6 9) (va_cwS 3 hts gX4_foresee_X4_isIn rfl rfl rfl pX4_isIn ⟨Nat.le_of_ble_eq_true rfl, Nat.le_of_ble_eq_true rfl⟩) hK hP hD hS hA hST (Jn_nil _) rfl hl.1 rfl (Nat.le_of_ble_eq_true rfl) dX4_foresee_32 ⟨Nat.le_of_ble_eq_true rfl, Nat.le_of_ble_eq_true rfl⟩ rfl (fun H locs hP hD hS => ?_)
      refine lv_if_ne (tgt := 44) hx hb dX4_foresee_35 (by decide) (fun c_35 => ?_) (fun c_35 => ?_)
      ·
        obtain ⟨r, hr9, hr1, er⟩ := cIn_1 (inB_t c_13)
        subst er
        obtain ⟨w, hw, ew⟩ := cIn_n 9 (by decide) (Int32.le_trans (by decide) (inB_t c_35).1) (inB_t c_35).2
        subst ew
        refine lv_aload_n hx hb dX4_foresee_44 rfl (lv_at hl 0 rfl) ?_
        refine c0_V (As := []) (rest := []) ⟨hx, hb, hml, hown, hts⟩ (mX4_keep l D cI cC cT cL M 0 nc nt f k g ) (cwV 0 hts gX4_foresee_X4_keep rfl rfl rfl pX4_keep ⟨Nat.le_of_ble_eq_true rfl, Nat.le_of_ble_eq_true rfl⟩) hK hP hD hS hA hST (Jn_mw) 0 rfl rfl rfl rfl hl.1 rfl (Nat.le_of_ble_eq_true rfl) dX4_foresee_45 ⟨Nat.le_of_ble_eq_true rfl, Nat.le_of_ble_eq_true rfl⟩ rfl (fun H locs hP hD hS => ?_)
        refine lv_iconst (v := 0) hx hb dX4_foresee_48 (by decide) ?_
        refine lv_istore_n (lv' := [(3, .int 0), (0, .ref (M 0)), (1, .int (nI r)), (2, .int (nI w))]) hx hb dX4_foresee_49 rfl hl (by decide) rfl (fun ls hl => ?_)
        have lp1 : ∀ (n j : Nat), j + n = r → ∀ (H : Heap) (locs : List Loc), va_P D vwCl (MW cI M 0 nc nt (rep (hourF nc nt g) j f) (va_cpy f k 0 0 37) g) H → va_D A0 (MW cI M 0 nc nt (rep (hourF nc nt g) j f) (va_cpy f k 0 0 37) g) → va_S A0 s.heap H locs → ∀ ls, lv_has ls 4 [(3, .int (nI j)), (2, .int (nI w)), (1, .int (nI r)), (0, .ref (M 0))] → W p l e ({ frames := 4, cells := 1, slots := 10, locals := 100 } : Room) s m args below meth c H locs 0 0 (Q0 below D (some (.int (sel (kFore (nI r) (nI w)) (cntF nt (rep (hourF nc nt g) (nI r).toNatClampNeg f) g (nI w).toNatClampNeg) 0))) (MW cI M (nI (kFore (nI r) (nI w))) nc nt f (sel (kFore (nI r) (nI w)) (va_cpy f k 0 0 37) k) g) A0 args s 1 10) (F0 m 50 ls []) := by
          intro n
          induction n with
          | zero =>
            intro j hj   H locs hP hD hS ls hl
            have hje : r = j := by omega
            subst hje
            refine lv_iload_n hx hb dX4_foresee_50 rfl (lv_at hl 0 rfl) ?_
            refine lv_iload_n hx hb dX4_foresee_51 rfl (lv_at hl 2 rfl) ?_
            refine lv_icmp_ge (tgt := 65) hx hb dX4_foresee_52 (by decide) (fun c_52 => ?_) (fun c_52 => ?_)
            rotate_left
            · exact absurd (Int32.le_refl _) c_52
            refine lv_aload_n hx hb dX4_foresee_65 rfl (lv_at hl 3 rfl) ?_
            refine lv_iload_n hx hb dX4_foresee_66 rfl (lv_at hl 1 rfl) ?_
            refine c0_V (As := [.int (nI w)]) (rest := []) ⟨hx, hb, hml, hown, hts⟩ (mX4_counted l D cI cC cT cL M 0 nc nt (rep (hourF nc nt g) r f) (va_cpy f k 0 0 37) g (nI w) w rfl (by omega) hnt (h + r) (by omega) (Inv.hours hI hg hnc hnt h0 r (by omega)).2) (cwV 1 hts gX4_foresee_X4_counted rfl rfl rfl pX4_counted ⟨Nat.le_of_ble_eq_true rfl, Nat.le_of_ble_eq_true rfl⟩) hK hP hD hS hA hST (Jn_mw) 0 rfl rfl rfl rfl hl.1 rfl (Nat.le_of_ble_eq_true rfl) dX4_foresee_67 ⟨Nat.le_of_ble_eq_true rfl, Nat.le_of_ble_eq_true rfl⟩ rfl (fun H locs hP hD hS => ?_)
            refine lv_istore_n (lv' := [(3, .int (cntF nt (rep (hourF nc nt g) r f) g w)), (2, .int (nI w)), (1, .int (nI r)), (0, .ref (M 0))]) hx hb dX4_foresee_70 rfl hl (by decide) rfl (fun ls hl => ?_)
            refine lv_aload_n hx hb dX4_foresee_71 rfl (lv_at hl 3 rfl) ?_
            refine c0_V (As := []) (rest := []) ⟨hx, hb, hml, hown, hts⟩ (mX4_bringBack l D cI cC cT cL M 0 nc nt (rep (hourF nc nt g) r f) (va_cpy f k 0 0 37) g ) (cwV 0 hts gX4_foresee_X4_bringBack rfl rfl rfl pX4_bringBack ⟨Nat.le_of_ble_eq_true rfl, Nat.le_of_ble_eq_true rfl⟩) hK hP hD hS hA hST (Jn_mw) 0 rfl rfl rfl rfl hl.1 rfl (Nat.le_of_ble_eq_true rfl) dX4_foresee_72 ⟨Nat.le_of_ble_eq_true rfl, Nat.le_of_ble_eq_true rfl⟩ rfl (fun H locs hP hD hS => ?_)
            refine lv_iload_n hx hb dX4_foresee_75 rfl (lv_at hl 0 rfl) ?_
            have hK9 : kFore (nI r) (nI w) = 0 := by rw [kFore, if_pos (inB_t c_13), if_neg c_24, if_pos (inB_t c_35)]
            have hP := P_arr hP 1 rfl (f' := f) kp
            exact e0_i hx hb hr hlocks (P_eq (by first | (rw [hK9, sel_0, nI_clamp (by omega), nI_clamp (by omega), nI_clamp (by omega)] <;> rfl) | (rw [hK9, sel_0, nI_clamp (by omega), nI_clamp (by omega)] <;> rfl) | (rw [hK9, sel_0, nI_clamp (by omega)] <;> rfl) | (rw [hK9, sel_0] <;> rfl) | (rw [hK9] <;> rfl)) hP) hS dX4_foresee_76 (by decide) (by decide) (by first | (rw [hK9, sel_0, nI_clamp (by omega), nI_clamp (by omega), nI_clamp (by omega)] <;> rfl) | (rw [hK9, sel_0, nI_clamp (by omega), nI_clamp (by omega)] <;> rfl) | (rw [hK9, sel_0, nI_clamp (by omega)] <;> rfl) | (rw [hK9, sel_0] <;> rfl) | (rw [hK9] <;> rfl))
          | succ n ih =>
            intro j hj   H locs hP hD hS ls hl
            refine lv_iload_n hx hb dX4_foresee_50 rfl (lv_at hl 0 rfl) ?_
            refine lv_iload_n hx hb dX4_foresee_51 rfl (lv_at hl 2 rfl) ?_
            refine lv_icmp_ge (tgt := 65) hx hb dX4_foresee_52 (by decide) (fun c_52 => ?_) (fun c_52 => ?_)
            · exact absurd c_52 (nI_ge (by omega) (by omega))
            refine lv_aload_n hx hb dX4_foresee_55 rfl (lv_at hl 3 rfl) ?_
            refine c0_V (As := []) (rest := []) ⟨hx, hb, hml, hown, hts⟩ (mX4_hourOn l D cI cC cT cL M 0 nc nt (rep (hourF nc nt g) j f) (va_cpy f k 0 0 37) g hnc hnt (Inv.hours hI hg hnc hnt h0 j (by omega)).1 hg (h + j) (by omega) (Inv.hours hI hg hnc hnt h0 j (by omega)).2) (cwV 0 hts gX4_foresee_X4_hourOn rfl rfl rfl pX4_hourOn ⟨Nat.le_of_ble_eq_true rfl, Nat.le_of_ble_eq_true rfl⟩) hK hP hD hS hA hST (Jn_mw) 0 rfl rfl rfl rfl hl.1 rfl (Nat.le_of_ble_eq_true rfl) dX4_foresee_56 ⟨Nat.le_of_ble_eq_true rfl, Nat.le_of_ble_eq_true rfl⟩ rfl (fun H locs hP hD hS => ?_)
            refine lv_iinc (v := nI (j + 1)) (lv' := [(3, .int (nI (j + 1))), (2, .int (nI w)), (1, .int (nI r)), (0, .ref (M 0))]) hx hb dX4_foresee_59 hl (k := 0) rfl (nI_succ _).symm (by decide) rfl (fun ls hl => ?_)
            refine lv_goto (tgt := 50) hx hb dX4_foresee_62 (by decide) ?_
            exact ih (j + 1) (by omega) _ _ hP hD hS _ (lv_sub hl [0, 1, 2, 3] rfl)
        exact lp1 r 0 (by omega) _ _ hP hD hS _ (lv_sub hl [0, 3, 2, 1] rfl)
      ·
        refine lv_aload_n hx hb dX4_foresee_38 rfl (lv_at hl 0 rfl) ?_
        refine lv_iconst (v := 2) hx hb dX4_foresee_39 (by decide) ?_
        refine c0_V (As := [.int 2]) (rest := []) ⟨hx, hb, hml, hown, hts⟩ (mX4_no l D cI cC cT cL M 0 nc nt f k g 2) (cwV 1 hts gX4_foresee_X4_no rfl rfl rfl pX4_no ⟨Nat.le_of_ble_eq_true rfl, Nat.le_of_ble_eq_true rfl⟩) hK hP hD hS hA hST (Jn_mw) 0 rfl rfl rfl rfl hl.1 rfl (Nat.le_of_ble_eq_true rfl) dX4_foresee_40 ⟨Nat.le_of_ble_eq_true rfl, Nat.le_of_ble_eq_true rfl⟩ rfl (fun H locs hP hD hS => ?_)
        have hK9 : kFore u v = 2 := by rw [kFore, if_pos (inB_t c_13), if_neg c_24, if_neg (inB_f c_35)]
        exact e0_i hx hb hr hlocks (P_eq (by (rw [hK9] <;> rfl)) hP) hS dX4_foresee_43 (by decide) (by decide) (by (rw [hK9] <;> rfl))
  ·
    refine lv_aload_n hx hb dX4_foresee_16 rfl (lv_at hl 0 rfl) ?_
    refine lv_iconst (v := 1) hx hb dX4_foresee_17 (by decide) ?_
    refine c0_V (As := [.int 1]) (rest := []) ⟨hx, hb, hml, hown, hts⟩ (mX4_no l D cI cC cT cL M 0 nc nt f k g 1) (cwV 1 hts gX4_foresee_X4_no rfl rfl rfl pX4_no ⟨Nat.le_of_ble_eq_true rfl, Nat.le_of_ble_eq_true rfl⟩) hK hP hD hS hA hST (Jn_mw) 0 rfl rfl rfl rfl hl.1 rfl (Nat.le_of_ble_eq_true rfl) dX4_foresee_18 ⟨Nat.le_of_ble_eq_true rfl, Nat.le_of_ble_eq_true rfl⟩ rfl (fun H locs hP hD hS => ?_)
    have hK9 : kFore u v = 1 := by rw [kFore, if_neg (inB_f c_13)]
    exact e0_i hx hb hr hlocks (P_eq (by (rw [hK9] <;> rfl)) hP) hS dX4_foresee_21 (by decide) (by decide) (by (rw [hK9] <;> rfl))

set_option maxHeartbeats 4000000 in
set_option maxRecDepth 100000 in
theorem mX4_lasts (l : Launch) (D : va_G) (cI cC cT cL : ClassId) (M : Nat → Nat) (th : Int32) (nc nt : Nat) (f k g : Nat → Int32) (hI : Inv f) (h : Nat) (hh : h < 2 ^ 29) (h0 : f 0 = nI h) : M0 l yX4_lasts wsX4_lasts ({ frames := 0, cells := 0, slots := 0, locals := 0 } : Room) D (TY cI cC cT cL) [.ref (M 0)] (MW cI M th nc nt f k g) (some (.int (fd0 (iceN f g h) 1000 0))) (MW cI M 0 nc nt f k g) 0 0 := by
  refine M0_of (cc := cX4_lasts) (maxL := 3) (ret := (some .int)) (by decide +kernel) rfl (Nat.le_of_ble_eq_true rfl) ?_
  intro p e s m args below meth c A0 B ls hl
  obtain ⟨hx, hb, hml, hr, hown, hts, hlocks, hK, hP, hD, hA, hST, hnm⟩ := B
  have hown : s.vm.findClass RX4 = some m.cls := hown
  have hS : va_S A0 s.heap s.heap [] := va_S.rf
  have hl : lv_has ls 3 [(0, .ref (M 0))] := hl
  refine lv_aload_n hx hb dX4_lasts_0 rfl (lv_at hl 0 rfl) ?_
  refine lv_iconst (v := 0) hx hb dX4_lasts_1 (by decide) ?_
  refine w_put (C := RX4) hx hb hts iX4_lasts_X4 tyX4_ok nmX4 hown hK hP hD hS 0 rfl rfl 0 (by decide) fX4_lasts_19 rfl rfl rfl rfl (Nat.le_of_ble_eq_true rfl) (ws' := MW cI M 0 nc nt f k g) rfl dX4_lasts_2 (fun H locs hP hD hS => ?_)
  refine lv_aload_n hx hb dX4_lasts_5 rfl (lv_at hl 0 rfl) ?_
  refine w_get hx hb hts iX4_lasts_X4 hown hK hP 0 rfl rfl 3 (by decide) fX4_lasts_9 rfl rfl dX4_lasts_6 ?_
  refine lv_iconst (v := 1) hx hb dX4_lasts_9 (by decide) ?_
  refine w_ild hx hb hK hP 1 0 rfl rfl 1 rfl (by decide) (by decide) (v := f 1) rfl dX4_lasts_10 ?_
  refine lv_istore_n (lv' := [(1, .int (f 1)), (0, .ref (M 0))]) hx hb dX4_lasts_11 rfl hl (by decide) rfl (fun ls hl => ?_)
  refine lv_aload_n hx hb dX4_lasts_12 rfl (lv_at hl 1 rfl) ?_
  refine w_get hx hb hts iX4_lasts_X4 hown hK hP 0 rfl rfl 3 (by decide) fX4_lasts_9 rfl rfl dX4_lasts_13 ?_
  refine lv_iconst (v := 0) hx hb dX4_lasts_16 (by decide) ?_
  refine w_ild hx hb hK hP 1 0 rfl rfl 0 rfl (by decide) (by decide) (v := f 0) rfl dX4_lasts_17 ?_
  rw [h0]
  refine lv_istore_n (lv' := [(2, .int (nI h)), (1, .int (f 1)), (0, .ref (M 0))]) hx hb dX4_lasts_18 rfl hl (by decide) rfl (fun ls hl => ?_)
  have lp0 : ∀ (n j : Nat), j + n = 999 → ∀ (lf : Int32), ((iceN f g h) j = imx 0 lf) → (fd0 (iceN f g h) 1000 0 = fd0 (iceN f g h) (n + 1) j) → ∀ (H : Heap) (locs : List Loc), va_P D vwCl (MW cI M 0 nc nt f k g) H → va_D A0 (MW cI M 0 nc nt f k g) → va_S A0 s.heap H locs → ∀ ls, lv_has ls 3 [(2, .int (nI (h + j))), (1, .int lf), (0, .ref (M 0))] → W p l e ({ frames := 0, cells := 0, slots := 0, locals := 0 } : Room) s m args below meth c H locs 0 0 (Q0 below D (some (.int (fd0 (iceN f g h) 1000 0))) (MW cI M 0 nc nt f k g) A0 args s 0 0) (F0 m 19 ls []) := by
    intro n
    induction n with
    | zero =>
      intro j hj lf hf hR H locs hP hD hS ls hl
      have hje : 999 = j := by omega
      subst hje
      refine lv_iload_n hx hb dX4_lasts_19 rfl (lv_at hl 1 rfl) ?_
      refine lv_if_le (tgt := 66) hx hb dX4_lasts_20 (by decide) (fun c_20 => ?_) (fun c_20 => ?_)
      ·
        refine lv_iload_n hx hb dX4_lasts_66 rfl (lv_at hl 1 rfl) ?_
        refine lv_if_le (tgt := 74) hx hb dX4_lasts_67 (by decide) (fun c_67 => ?_) (fun c_67 => ?_)
        rotate_left
        · exact absurd c_20 c_67
        refine lv_iload_n hx hb dX4_lasts_74 rfl (lv_at hl 0 rfl) ?_
        refine lv_aload_n hx hb dX4_lasts_75 rfl (lv_at hl 2 rfl) ?_
        refine w_get hx hb hts iX4_lasts_X4 hown hK hP 0 rfl rfl 3 (by decide) fX4_lasts_9 rfl rfl dX4_lasts_76 ?_
        refine lv_iconst (v := 0) hx hb dX4_lasts_79 (by decide) ?_
        refine w_ild hx hb hK hP 1 0 rfl rfl 0 rfl (by decide) (by decide) (v := f 0) rfl dX4_lasts_80 ?_
        refine lv_isub hx hb dX4_lasts_81 ?_
        exact e0_i hx hb hr hlocks hP hS dX4_lasts_82 (by decide) (by decide) (by rw [hR, fd0, if_pos (by rw [hf, imx_neg c_20]), at_sub h0])
      ·
        refine lv_iload_n hx hb dX4_lasts_23 rfl (lv_at hl 0 rfl) ?_
        refine lv_aload_n hx hb dX4_lasts_24 rfl (lv_at hl 2 rfl) ?_
        refine w_get hx hb hts iX4_lasts_X4 hown hK hP 0 rfl rfl 3 (by decide) fX4_lasts_9 rfl rfl dX4_lasts_25 ?_
        refine lv_iconst (v := 0) hx hb dX4_lasts_28 (by decide) ?_
        refine w_ild hx hb hK hP 1 0 rfl rfl 0 rfl (by decide) (by decide) (v := f 0) rfl dX4_lasts_29 ?_
        refine lv_isub hx hb dX4_lasts_30 ?_
        refine lv_sipush (v := 999) hx hb dX4_lasts_31 (by decide) ?_
        refine lv_icmp_ge (tgt := 66) hx hb dX4_lasts_34 (by decide) (fun c_34 => ?_) (fun c_34 => ?_)
        rotate_left
        · exact absurd (by rw [at_sub h0]; decide) c_34
        refine lv_iload_n hx hb dX4_lasts_66 rfl (lv_at hl 1 rfl) ?_
        refine lv_if_le (tgt := 74) hx hb dX4_lasts_67 (by decide) (fun c_67 => ?_) (fun c_67 => ?_)
        · exact absurd c_67 c_20
        refine lv_iconst (v := (-1)) hx hb dX4_lasts_70 (by decide) ?_
        refine lv_goto (tgt := 82) hx hb dX4_lasts_71 (by decide) ?_
        exact e0_i hx hb hr hlocks hP hS dX4_lasts_82 (by decide) (by decide) (by rw [hR, fd0, if_neg (by rw [hf, imx_pos c_20]; exact le_ne c_20), fd0])
    | succ n ih =>
      intro j hj lf hf hR H locs hP hD hS ls hl
      refine lv_iload_n hx hb dX4_lasts_19 rfl (lv_at hl 1 rfl) ?_
      refine lv_if_le (tgt := 66) hx hb dX4_lasts_20 (by decide) (fun c_20 => ?_) (fun c_20 => ?_)
      ·
        refine lv_iload_n hx hb dX4_lasts_66 rfl (lv_at hl 1 rfl) ?_
        refine lv_if_le (tgt := 74) hx hb dX4_lasts_67 (by decide) (fun c_67 => ?_) (fun c_67 => ?_)
        rotate_left
        · exact absurd c_20 c_67
        refine lv_iload_n hx hb dX4_lasts_74 rfl (lv_at hl 0 rfl) ?_
        refine lv_aload_n hx hb dX4_lasts_75 rfl (lv_at hl 2 rfl) ?_
        refine w_get hx hb hts iX4_lasts_X4 hown hK hP 0 rfl rfl 3 (by decide) fX4_lasts_9 rfl rfl dX4_lasts_76 ?_
        refine lv_iconst (v := 0) hx hb dX4_lasts_79 (by decide) ?_
        refine w_ild hx hb hK hP 1 0 rfl rfl 0 rfl (by decide) (by decide) (v := f 0) rfl dX4_lasts_80 ?_
        refine lv_isub hx hb dX4_lasts_81 ?_
        exact e0_i hx hb hr hlocks hP hS dX4_lasts_82 (by decide) (by decide) (by rw [hR, fd0, if_pos (by rw [hf, imx_neg c_20]), at_sub h0])
      ·
        refine lv_iload_n hx hb dX4_lasts_23 rfl (lv_at hl 0 rfl) ?_
        refine lv_aload_n hx hb dX4_lasts_24 rfl (lv_at hl 2 rfl) ?_
        refine w_get hx hb hts iX4_lasts_X4 hown hK hP 0 rfl rfl 3 (by decide) fX4_lasts_9 rfl rfl dX4_lasts_25 ?_
        refine lv_iconst (v := 0) hx hb dX4_lasts_28 (by decide) ?_
        refine w_ild hx hb hK hP 1 0 rfl rfl 0 rfl (by decide) (by decide) (v := f 0) rfl dX4_lasts_29 ?_
        refine lv_isub hx hb dX4_lasts_30 ?_
        refine lv_sipush (v := 999) hx hb dX4_lasts_31 (by decide) ?_
        refine lv_icmp_ge (tgt := 66) hx hb dX4_lasts_34 (by decide) (fun c_34 => ?_) (fun c_34 => ?_)
        · exact absurd c_34 (by rw [at_sub h0]; exact nI_ge (b := 999) (by omega) (by decide))
        refine lv_iload_n hx hb dX4_lasts_37 rfl (lv_at hl 0 rfl) ?_
        refine lv_iconst (v := 4) hx hb dX4_lasts_38 (by decide) ?_
        refine lv_irem hx hb dX4_lasts_39 (by decide) ?_
        refine lv_if_ne (tgt := 60) hx hb dX4_lasts_40 (by decide) (fun c_40 => ?_) (fun c_40 => ?_)
        ·
          refine lv_iinc (v := nI ((h + j) + 1)) (lv' := [(2, .int (nI ((h + j) + 1))), (1, .int lf), (0, .ref (M 0))]) hx hb dX4_lasts_60 hl (k := 0) rfl (nI_succ _).symm (by decide) rfl (fun ls hl => ?_)
          refine lv_goto (tgt := 19) hx hb dX4_lasts_63 (by decide) ?_
          exact ih (j + 1) (by omega) lf (ice_f h0 hf c_40) (by rw [hR, fd0, if_neg (by rw [hf, imx_pos c_20]; exact le_ne c_20)]) _ _ hP hD hS _ (lv_sub hl [0, 1, 2] rfl)
        ·
          refine lv_iload_n hx hb dX4_lasts_43 rfl (lv_at hl 1 rfl) ?_
          refine lv_aload_n hx hb dX4_lasts_44 rfl (lv_at hl 2 rfl) ?_
          refine w_get hx hb hts iX4_lasts_X4 hown hK hP 0 rfl rfl 5 (by decide) fX4_lasts_16 rfl rfl dX4_lasts_45 ?_
          refine lv_iload_n hx hb dX4_lasts_48 rfl (lv_at hl 0 rfl) ?_
          refine lv_bipush (v := 24) hx hb dX4_lasts_49 (by decide) ?_
          refine lv_idiv hx hb dX4_lasts_51 (by decide) ?_
          refine lv_bipush (v := 7) hx hb dX4_lasts_52 (by decide) ?_
          refine lv_irem hx hb dX4_lasts_54 (by decide) ?_
          refine w_ild hx hb hK hP 3 0 rfl rfl ((h + j) / 24 % 7) (hm (d := 0) (by omega)) (Nat.mod_lt _ (by decide)) (by decide) (v := g ((h + j) / 24 % 7)) rfl dX4_lasts_55 ?_
          refine lv_iconst (v := 5) hx hb dX4_lasts_56 (by decide) ?_
          refine lv_idiv hx hb dX4_lasts_57 (by decide) ?_
          refine lv_isub hx hb dX4_lasts_58 ?_
          refine lv_istore_n (lv' := [(1, .int (lf - ((g ((h + j) / 24 % 7)) / 5))), (2, .int (nI (h + j))), (0, .ref (M 0))]) hx hb dX4_lasts_59 rfl hl (by decide) rfl (fun ls hl => ?_)
          refine lv_iinc (v := nI ((h + j) + 1)) (lv' := [(2, .int (nI ((h + j) + 1))), (1, .int (lf - ((g ((h + j) / 24 % 7)) / 5))), (0, .ref (M 0))]) hx hb dX4_lasts_60 hl (k := 1) rfl (nI_succ _).symm (by decide) rfl (fun ls hl => ?_)
          refine lv_goto (tgt := 19) hx hb dX4_lasts_63 (by decide) ?_
          exact ih (j + 1) (by omega) (lf - ((g ((h + j) / 24 % 7)) / 5)) (ice_t h0 hf c_20 c_40) (by rw [hR, fd0, if_neg (by rw [hf, imx_pos c_20]; exact le_ne c_20)]) _ _ hP hD hS _ (lv_sub hl [0, 1, 2] rfl)
  exact lp0 999 0 (by omega) (f 1) (imx_0 hI.1.1).symm rfl _ _ hP hD hS _ (lv_sub hl [0, 1, 2] rfl)

set_option maxHeartbeats 4000000 in
set_option maxRecDepth 100000 in
theorem mX4_salt (l : Launch) (D : va_G) (cI cC cT cL : ClassId) (M : Nat → Nat) (th : Int32) (nc nt : Nat) (f k g : Nat → Int32) (u v : Int32) (hnc : nc ≤ 4) (hI : Inv f) : M0 l yX4_salt wsX4_salt ({ frames := 2, cells := 0, slots := 0, locals := 45 } : Room) D (TY cI cC cT cL) [.ref (M 0), .int u, .int v] (MW cI M th nc nt f k g) (some (.int (sel (kSalt nc u v) (saltR f u.toNatClampNeg v) 0))) (MW cI M (nI (kSalt nc u v)) nc nt f k g) 0 0 := by
  refine M0_of (cc := cX4_salt) (maxL := 5) (ret := (some .int)) (by decide +kernel) rfl (Nat.le_of_ble_eq_true rfl) ?_
  intro p e s m args below meth c A0 B ls hl
  obtain ⟨hx, hb, hml, hr, hown, hts, hlocks, hK, hP, hD, hA, hST, hnm⟩ := B
  have hown : s.vm.findClass RX4 = some m.cls := hown
  have hS : va_S A0 s.heap s.heap [] := va_S.rf
  have hl : lv_has ls 5 [(0, .ref (M 0)), (1, .int u), (2, .int v)] := hl
  refine lv_aload_n hx hb dX4_salt_0 rfl (lv_at hl 0 rfl) ?_
  refine lv_iconst (v := 0) hx hb dX4_salt_1 (by decide) ?_
  refine w_put (C := RX4) hx hb hts iX4_salt_X4 tyX4_ok nmX4 hown hK hP hD hS 0 rfl rfl 0 (by decide) fX4_salt_19 rfl rfl rfl rfl (Nat.le_of_ble_eq_true rfl) (ws' := MW cI M 0 nc nt f k g) rfl dX4_salt_2 (fun H locs hP hD hS => ?_)
  refine lv_aload_n hx hb dX4_salt_5 rfl (lv_at hl 0 rfl) ?_
  refine lv_iload_n hx hb dX4_salt_6 rfl (lv_at hl 1 rfl) ?_
  refine c0_V (As := [.int u]) (rest := []) ⟨hx, hb, hml, hown, hts⟩ (mX4_isChurn l D cI cC cT cL M 0 nc nt f k g u) (cwV 1 hts gX4_salt_X4_isChurn rfl rfl rfl pX4_isChurn ⟨Nat.le_of_ble_eq_true rfl, Nat.le_of_ble_eq_true rfl⟩) hK hP hD hS hA hST (Jn_mw) 0 rfl rfl rfl rfl hl.1 rfl (Nat.le_of_ble_eq_true rfl) dX4_salt_7 ⟨Nat.le_of_ble_eq_true rfl, Nat.le_of_ble_eq_true rfl⟩ rfl (fun H locs hP hD hS => ?_)
  refine lv_if_ne (tgt := 19) hx hb dX4_salt_10 (by decide) (fun c_10 => ?_) (fun c_10 => ?_)
  ·
    refine lv_iload_n hx hb dX4_salt_19 rfl (lv_at hl 2 rfl) ?_
    refine lv_iconst (v := 0) hx hb dX4_salt_20 (by decide) ?_
    refine lv_bipush (v := 60) hx hb dX4_salt_21 (by decide) ?_
    refine c0_S (As := [.int v, .int 0, .int 60]) (rest := []) ⟨hx, hb, hml, hown, hts⟩ (mX4_isIn l D cI cC cT cL v 0 60) (va_cwS 3 hts gX4_salt_X4_isIn rfl rfl rfl pX4_isIn ⟨Nat.le_of_ble_eq_true rfl, Nat.le_of_ble_eq_true rfl⟩) hK hP hD hS hA hST (Jn_nil _) rfl hl.1 rfl (Nat.le_of_ble_eq_true rfl) dX4_salt_23 ⟨Nat.le_of_ble_eq_true rfl, Nat.le_of_ble_eq_true rfl⟩ rfl (fun H locs hP hD hS => ?_)
    refine lv_if_ne (tgt := 35) hx hb dX4_salt_26 (by decide) (fun c_26 => ?_) (fun c_26 => ?_)
    ·
      obtain ⟨i, hi, ei⟩ := inR_n (by omega) (inB_Rt (by omega) c_10)
      subst ei
      obtain ⟨x, hx9, ex⟩ := cIn_n 60 (by decide) (inB_t c_26).1 (inB_t c_26).2
      subst ex
      obtain ⟨d, hd9, ed⟩ := of_bd (n := 30) (by decide) (hI.2.1 i (by omega)).1
      refine lv_iconst (v := 0) hx hb dX4_salt_35 (by decide) ?_
      refine lv_istore_n (lv' := [(3, .int 0), (0, .ref (M 0)), (1, .int (nI i)), (2, .int (nI x))]) hx hb dX4_salt_36 rfl hl (by decide) rfl (fun ls hl => ?_)
      refine lv_iconst (v := 1) hx hb dX4_salt_37 (by decide) ?_
      refine lv_istore (lv' := [(4, .int 1), (3, .int 0), (0, .ref (M 0)), (1, .int (nI i)), (2, .int (nI x))]) hx hb dX4_salt_38 hl (by decide) rfl (fun ls hl => ?_)
      have lp0 : ∀ (n j : Nat), j + n = 60 → ∀ (bs : Int32), (bs = nI (min j (sB d x))) → ∀ (H : Heap) (locs : List Loc), va_P D vwCl (MW cI M 0 nc nt f k g) H → va_D A0 (MW cI M 0 nc nt f k g) → va_S A0 s.heap H locs → ∀ ls, lv_has ls 5 [(4, .int (nI (j + 1))), (3, .int bs), (2, .int (nI x)), (1, .int (nI i)), (0, .ref (M 0))] → W p l e ({ frames := 2, cells := 0, slots := 0, locals := 45 } : Room) s m args below meth c H locs 0 0 (Q0 below D (some (.int (sel (kSalt nc (nI i) (nI x)) (saltR f (nI i).toNatClampNeg (nI x)) 0))) (MW cI M (nI (kSalt nc (nI i) (nI x))) nc nt f k g) A0 args s 0 0) (F0 m 40 ls []) := by
        intro n
        induction n with
        | zero =>
          intro j hj bs hb1 H locs hP hD hS ls hl
          have hje : 60 = j := by omega
          subst hje
          have hb2 := hb1
          refine lv_iload hx hb dX4_salt_40 (lv_at hl 0 rfl) ?_
          refine lv_bipush (v := 60) hx hb dX4_salt_42 (by decide) ?_
          refine lv_icmp_gt (tgt := 74) hx hb dX4_salt_44 (by decide) (fun c_44 => ?_) (fun c_44 => ?_)
          rotate_left
          · exact absurd (by decide) c_44
          refine lv_iload_n hx hb dX4_salt_74 rfl (lv_at hl 1 rfl) ?_
          have hK9 : kSalt nc (nI i) (nI x) = 0 := by rw [kSalt, if_pos (inB_Rt (by omega) c_10), if_pos (inB_t c_26)]
          exact e0_i hx hb hr hlocks (P_eq (by first | (rw [hK9, sel_0, nI_clamp (by omega), nI_clamp (by omega), nI_clamp (by omega)] <;> rfl) | (rw [hK9, sel_0, nI_clamp (by omega), nI_clamp (by omega)] <;> rfl) | (rw [hK9, sel_0, nI_clamp (by omega)] <;> rfl) | (rw [hK9, sel_0] <;> rfl) | (rw [hK9] <;> rfl)) hP) hS dX4_salt_75 (by decide) (by decide) (by rw [hK9, sel_0, nI_clamp (by omega), hb1, salt_end ed hd9 hx9])
        | succ n ih =>
          intro j hj bs hb1 H locs hP hD hS ls hl
          have hb2 := hb1
          refine lv_iload hx hb dX4_salt_40 (lv_at hl 0 rfl) ?_
          refine lv_bipush (v := 60) hx hb dX4_salt_42 (by decide) ?_
          refine lv_icmp_gt (tgt := 74) hx hb dX4_salt_44 (by decide) (fun c_44 => ?_) (fun c_44 => ?_)
          · exact absurd c_44 (nI_nlt (a := 60) (by omega) (by decide))
          refine lv_aload_n hx hb dX4_salt_47 rfl (lv_at hl 4 rfl) ?_
          refine lv_iload_n hx hb dX4_salt_48 rfl (lv_at hl 3 rfl) ?_
          refine lv_iload_n hx hb dX4_salt_49 rfl (lv_at hl 2 rfl) ?_
          refine lv_iload hx hb dX4_salt_50 (lv_at hl 0 rfl) ?_
          refine c0_V (As := [.int (nI i), .int (nI x), .int (nI (j + 1))]) (rest := []) ⟨hx, hb, hml, hown, hts⟩ (mX4_packed l D cI cC cT cL M 0 nc nt f k g i (by omega) (nI x) (nI (j + 1))) (cwV 3 hts gX4_salt_X4_packed rfl rfl rfl pX4_packed ⟨Nat.le_of_ble_eq_true rfl, Nat.le_of_ble_eq_true rfl⟩) hK hP hD hS hA hST (Jn_mw) 0 rfl rfl rfl rfl hl.1 rfl (Nat.le_of_ble_eq_true rfl) dX4_salt_52 ⟨Nat.le_of_ble_eq_true rfl, Nat.le_of_ble_eq_true rfl⟩ rfl (fun H locs hP hD hS => ?_)
          refine lv_aload_n hx hb dX4_salt_55 rfl (lv_at hl 4 rfl) ?_
          refine lv_iload_n hx hb dX4_salt_56 rfl (lv_at hl 3 rfl) ?_
          refine lv_iload_n hx hb dX4_salt_57 rfl (lv_at hl 2 rfl) ?_
          refine lv_iload_n hx hb dX4_salt_58 rfl (lv_at hl 1 rfl) ?_
          refine c0_V (As := [.int (nI i), .int (nI x), .int bs]) (rest := [.int (brine (f (7 + 3 * i)) (nI x) (nI (j + 1)))]) ⟨hx, hb, hml, hown, hts⟩ (mX4_packed l D cI cC cT cL M 0 nc nt f k g i (by omega) (nI x) bs) (cwV 3 hts gX4_salt_X4_packed rfl rfl rfl pX4_packed ⟨Nat.le_of_ble_eq_true rfl, Nat.le_of_ble_eq_true rfl⟩) hK hP hD hS hA hST (Jn_mw) 0 rfl rfl rfl rfl hl.1 rfl (Nat.le_of_ble_eq_true rfl) dX4_salt_59 ⟨Nat.le_of_ble_eq_true rfl, Nat.le_of_ble_eq_true rfl⟩ rfl (fun H locs hP hD hS => ?_)
          have c0 : True := trivial
          refine lv_icmp_le (tgt := 68) hx hb dX4_salt_62 (by decide) (fun c_62 => ?_) (fun c_62 => ?_)
          ·
            refine lv_iinc (v := nI ((j + 1) + 1)) (lv' := [(4, .int (nI ((j + 1) + 1))), (3, .int bs), (2, .int (nI x)), (1, .int (nI i)), (0, .ref (M 0))]) hx hb dX4_salt_68 hl (k := 0) rfl (nI_succ _).symm (by decide) rfl (fun ls hl => ?_)
            refine lv_goto (tgt := 40) hx hb dX4_salt_71 (by decide) ?_
            exact ih (j + 1) (by omega) bs (hb1.trans ((salt_gt hd9 hx9 (by omega)).1 (by rw [← ed, ← hb1]; exact c_62))) _ _ hP hD hS _ (lv_sub hl [0, 1, 2, 3, 4] rfl)
          ·
            refine lv_iload hx hb dX4_salt_65 (lv_at hl 0 rfl) ?_
            refine lv_istore_n (lv' := [(3, .int (nI (j + 1))), (4, .int (nI (j + 1))), (2, .int (nI x)), (1, .int (nI i)), (0, .ref (M 0))]) hx hb dX4_salt_67 rfl hl (by decide) rfl (fun ls hl => ?_)
            refine lv_iinc (v := nI ((j + 1) + 1)) (lv' := [(4, .int (nI ((j + 1) + 1))), (3, .int (nI (j + 1))), (2, .int (nI x)), (1, .int (nI i)), (0, .ref (M 0))]) hx hb dX4_salt_68 hl (k := 1) rfl (nI_succ _).symm (by decide) rfl (fun ls hl => ?_)
            refine lv_goto (tgt := 40) hx hb dX4_salt_71 (by decide) ?_
            exact ih (j + 1) (by omega) (nI (j + 1)) (((salt_gt hd9 hx9 (by omega)).2 (by rw [← ed, ← hb1]; exact c_62))) _ _ hP hD hS _ (lv_sub hl [0, 1, 2, 3, 4] rfl)
      exact lp0 60 0 (by omega) 0 (by rw [Nat.zero_min]; rfl) _ _ hP hD hS _ (lv_sub hl [0, 1, 4, 3, 2] rfl)
    ·
      refine lv_aload_n hx hb dX4_salt_29 rfl (lv_at hl 0 rfl) ?_
      refine lv_iconst (v := 2) hx hb dX4_salt_30 (by decide) ?_
      refine c0_V (As := [.int 2]) (rest := []) ⟨hx, hb, hml, hown, hts⟩ (mX4_no l D cI cC cT cL M 0 nc nt f k g 2) (cwV 1 hts gX4_salt_X4_no rfl rfl rfl pX4_no ⟨Nat.le_of_ble_eq_true rfl, Nat.le_of_ble_eq_true rfl⟩) hK hP hD hS hA hST (Jn_mw) 0 rfl rfl rfl rfl hl.1 rfl (Nat.le_of_ble_eq_true rfl) dX4_salt_31 ⟨Nat.le_of_ble_eq_true rfl, Nat.le_of_ble_eq_true rfl⟩ rfl (fun H locs hP hD hS => ?_)
      have hK9 : kSalt nc u v = 2 := by rw [kSalt, if_pos (inB_Rt (by omega) c_10), if_neg (inB_f c_26)]
      exact e0_i hx hb hr hlocks (P_eq (by (rw [hK9] <;> rfl)) hP) hS dX4_salt_34 (by decide) (by decide) (by (rw [hK9] <;> rfl))
  ·
    refine lv_aload_n hx hb dX4_salt_13 rfl (lv_at hl 0 rfl) ?_
    refine lv_iconst (v := 1) hx hb dX4_salt_14 (by decide) ?_
    refine c0_V (As := [.int 1]) (rest := []) ⟨hx, hb, hml, hown, hts⟩ (mX4_no l D cI cC cT cL M 0 nc nt f k g 1) (cwV 1 hts gX4_salt_X4_no rfl rfl rfl pX4_no ⟨Nat.le_of_ble_eq_true rfl, Nat.le_of_ble_eq_true rfl⟩) hK hP hD hS hA hST (Jn_mw) 0 rfl rfl rfl rfl hl.1 rfl (Nat.le_of_ble_eq_true rfl) dX4_salt_15 ⟨Nat.le_of_ble_eq_true rfl, Nat.le_of_ble_eq_true rfl⟩ rfl (fun H locs hP hD hS => ?_)
    have hK9 : kSalt nc u v = 1 := by rw [kSalt, if_neg (inB_Rf (by omega) c_10)]
    exact e0_i hx hb hr hlocks (P_eq (by (rw [hK9] <;> rfl)) hP) hS dX4_salt_18 (by decide) (by decide) (by (rw [hK9] <;> rfl))
