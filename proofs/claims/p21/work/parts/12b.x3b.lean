theorem pack_eq {f : Nat → Int32} {i : Nat} {a b ice salt : Int32} (ha : a = f 1 - ice) (hb : b = f 2 - salt) : set3 (upd (upd f 1 a) 2 b) (7 + 3 * i) (brine (upd (upd f 1 a) 2 b (7 + 3 * i)) ice salt) (upd (upd f 1 a) 2 b (8 + 3 * i)) (upd (upd f 1 a) 2 b (9 + 3 * i)) = packF f i ice salt := by
  subst ha; subst hb
  unfold packF
  rw [up_o (k := 2) (j := 7 + 3 * i) (by omega), up_o (k := 1) (j := 7 + 3 * i) (by omega), up_o (k := 2) (j := 8 + 3 * i) (by omega), up_o (k := 1) (j := 8 + 3 * i) (by omega), up_o (k := 2) (j := 9 + 3 * i) (by omega), up_o (k := 1) (j := 9 + 3 * i) (by omega)]
theorem pour_eq {f : Nat → Int32} {i : Nat} {m : Int32} : set3 (upd f 3 (f 3 - m)) (7 + 3 * i) (upd f 3 (f 3 - m) (7 + 3 * i)) (upd f 3 (f 3 - m) (8 + 3 * i) + m) (addF (upd f 3 (f 3 - m) (7 + 3 * i)) (upd f 3 (f 3 - m) (8 + 3 * i)) (upd f 3 (f 3 - m) (9 + 3 * i)) m) = pourF f i m := by
  unfold pourF
  rw [up_o (k := 3) (j := 7 + 3 * i) (by omega), up_o (k := 3) (j := 8 + 3 * i) (by omega), up_o (k := 3) (j := 9 + 3 * i) (by omega)]
theorem s3_s3 {f : Nat → Int32} {k : Nat} {x y z a b c : Int32} : set3 (set3 f k x y z) k a b c = set3 f k a b c := by
  funext j
  unfold set3
  by_cases h0 : j = k
  · simp [h0]
  · by_cases h1 : j = k + 1
    · simp [h0, h1]
    · by_cases h2 : j = k + 2
      · simp [h0, h1, h2]
      · simp [h0, h1, h2]
theorem scoop_eq {f F : Nat → Int32} {i t : Nat} (hi : i < 4) (hF : F = set3 f (19 + 3 * t) (imn 60 (f (19 + 3 * t) + 2 * f (8 + 3 * i))) (imx (f (20 + 3 * t)) (100 - f (9 + 3 * i))) (f (21 + 3 * t))) :
    set3 (set3 F (7 + 3 * i) (F (7 + 3 * i)) 0 (F (9 + 3 * i))) (7 + 3 * i) (set3 F (7 + 3 * i) (F (7 + 3 * i)) 0 (F (9 + 3 * i)) (7 + 3 * i)) (set3 F (7 + 3 * i) (F (7 + 3 * i)) 0 (F (9 + 3 * i)) (8 + 3 * i)) 0 = scoopF f i t := by
  rw [s3_s3, s3_0, show 8 + 3 * i = 7 + 3 * i + 1 by omega, s3_1]
  unfold scoopF
  subst hF
  rw [s3_o (k := 19 + 3 * t) (j := 7 + 3 * i) (by omega), show 8 + 3 * i = 7 + 3 * i + 1 by omega]
theorem cIn_1 {q : Int32} (h : cIn q 1 168) : ∃ r, r < 169 ∧ 1 ≤ r ∧ q = nI r := by
  obtain ⟨r, hr9, e⟩ := cIn_n 168 (by decide) (Int32.le_trans (by decide) h.1) h.2
  refine ⟨r, by omega, ?_, e⟩
  have h1 := h.1
  rw [e] at h1
  exact (nI_leI (a := 1) (by decide) (by omega)).mp h1

set_option maxHeartbeats 4000000 in
set_option maxRecDepth 100000 in
theorem mX3_pack (l : Launch) (D : va_G) (cI cC cT cL : ClassId) (hl0 : l.stackTraces = false) (x b0 : Nat) (A : Nat → Nat) (nc nt : Nat) (f g : Nat → Int32) (u v z : Int32) (hnc : nc ≤ 4) : M1 l yX3_pack wsX3_pack ({ frames := 7, cells := 4, slots := 24, locals := 111 } : Room) D (TY cI cC cT cL) [.ref x, .int u, .int v, .int z] (YW cI cC cT x A b0 nc nt f g) (kPack nc f u v z = 0) (some (.int (packF f u.toNatClampNeg v z (7 + 3 * u.toNatClampNeg)))) (YW cI cC cT x A b0 nc nt (packF f u.toNatClampNeg v z) g) (XE (kPack nc f u v z) IOOBE IAE ISE) 4 24 := by
  refine M1_of (cc := cX3_pack) (maxL := 5) (ret := (some .int)) (by decide +kernel) rfl (Nat.le_of_ble_eq_true rfl) ?_
  intro p e s m args below meth c A0 B htab ls hl
  obtain ⟨hx, hb, hml, hr, hown, hts, hlocks, hK, hP, hD, hA, hST, hnm⟩ := B
  have hown : s.vm.findClass RX3 = some m.cls := hown
  have hS : va_S A0 s.heap s.heap [] := va_S.rf
  have hl : lv_has ls 5 [(0, .ref x), (1, .int u), (2, .int v), (3, .int z)] := hl
  refine lv_aload_n hx hb dX3_pack_0 rfl (lv_at hl 0 rfl) ?_
  refine lv_iload_n hx hb dX3_pack_1 rfl (lv_at hl 1 rfl) ?_
  refine c1_V (As := [.int u]) (rest := []) ⟨hx, hb, hml, hown, hts⟩ (mX3_existingChurn l D cI cC cT cL hl0 x b0 A nc nt f g u hnc) (cwV 1 hts gX3_pack_X3_existingChurn rfl rfl rfl pX3_existingChurn ⟨Nat.le_of_ble_eq_true rfl, Nat.le_of_ble_eq_true rfl⟩) hK hP hD hS hA hST (Jn_all _ _ (rfl)) (Jn_all _ _ rfl) 0 rfl rfl rfl rfl hl.1 rfl (Nat.le_of_ble_eq_true rfl) dX3_pack_2 ⟨Nat.le_of_ble_eq_true rfl, Nat.le_of_ble_eq_true rfl⟩ rfl (fun E ce q9 H locs hE hP hS h1 h2 h3 => e1_out htab hlocks (Or.inl ⟨by rw [kPack, if_neg hE.1], hE.2⟩) hP hS h1 h2 h3 (by decide) (by decide)) (fun hok2 H locs hP hD hS => ?_)
  obtain ⟨i, hi, ei⟩ := inR_n (by omega) hok2
  subst ei
  rw [nI_clamp (by omega)]
  refine lv_astore (lv' := [(4, .ref (A (5 + i))), (0, .ref x), (1, .int (nI i)), (2, .int v), (3, .int z)]) hx hb dX3_pack_5 hl (by decide) rfl (fun ls hl => ?_)
  refine lv_iload_n hx hb dX3_pack_7 rfl (lv_at hl 3 rfl) ?_
  refine c1_S (As := [.int v]) (rest := []) ⟨hx, hb, hml, hown, hts⟩ (mX3_checkPacked l D cI cC cT cL hl0 v) (va_cwS 1 hts gX3_pack_X3_checkPacked rfl rfl rfl pX3_checkPacked ⟨Nat.le_of_ble_eq_true rfl, Nat.le_of_ble_eq_true rfl⟩) hK hP hD hS hA hST (Jn_nil _) (Jn_nil _) rfl hl.1 rfl (Nat.le_of_ble_eq_true rfl) dX3_pack_8 ⟨Nat.le_of_ble_eq_true rfl, Nat.le_of_ble_eq_true rfl⟩ rfl (fun E ce q9 H locs hE hP hS h1 h2 h3 => e1_out htab hlocks (Or.inr (Or.inl ⟨by rw [kPack, if_pos hok2, if_neg hE.1], hE.2⟩)) hP hS h1 h2 h3 (by decide) (by decide)) (fun hok8 H locs hP hD hS => ?_)
  refine lv_iload_n hx hb dX3_pack_11 rfl (lv_at hl 4 rfl) ?_
  refine c1_S (As := [.int z]) (rest := []) ⟨hx, hb, hml, hown, hts⟩ (mX3_checkPacked l D cI cC cT cL hl0 z) (va_cwS 1 hts gX3_pack_X3_checkPacked rfl rfl rfl pX3_checkPacked ⟨Nat.le_of_ble_eq_true rfl, Nat.le_of_ble_eq_true rfl⟩) hK hP hD hS hA hST (Jn_nil _) (Jn_nil _) rfl hl.1 rfl (Nat.le_of_ble_eq_true rfl) dX3_pack_12 ⟨Nat.le_of_ble_eq_true rfl, Nat.le_of_ble_eq_true rfl⟩ rfl (fun E ce q9 H locs hE hP hS h1 h2 h3 => e1_out htab hlocks (Or.inr (Or.inl ⟨by rw [kPack, if_pos hok2, if_pos hok8, if_neg hE.1], hE.2⟩)) hP hS h1 h2 h3 (by decide) (by decide)) (fun hok12 H locs hP hD hS => ?_)
  refine lv_iload_n hx hb dX3_pack_15 rfl (lv_at hl 3 rfl) ?_
  refine lv_aload_n hx hb dX3_pack_16 rfl (lv_at hl 1 rfl) ?_
  refine w_get hx hb hts iX3_pack_X3 hown hK hP 0 rfl rfl 0 (by decide) fX3_pack_10 rfl rfl dX3_pack_17 ?_
  refine w_getN hx hb hts iX3_pack_X0 hown hK hST hP 1 rfl rfl 0 (by decide) 10 rfl rfl rfl dX3_pack_20 ?_
  refine lv_iconst (v := 0) hx hb dX3_pack_23 (by decide) ?_
  refine w_ild hx hb hK hP 2 0 rfl rfl 0 rfl (by decide) (by decide) (v := f 1) rfl dX3_pack_24 ?_
  refine lv_icmp_gt (tgt := 41) hx hb dX3_pack_25 (by decide) (fun c_25 => ?_) (fun c_25 => ?_)
  ·
    exact e1_throw hx hb hl0 hown hts (by decide +kernel) tkX3_pack_55 tiX3_pack_55 tgX3_pack_55 vg_3 vo_3 (by decide) hST (List.mem_of_getElem? (i := 8) rfl) hS (hl.1.trans hml.symm) dX3_pack_41 dX3_pack_44 dX3_pack_45 dX3_pack_47 dX3_pack_50 htab (Nat.le_of_ble_eq_true rfl) (Nat.le_of_ble_eq_true rfl) (Nat.le_of_ble_eq_true rfl) (Nat.le_of_ble_eq_true rfl) hlocks (Or.inr (Or.inr ⟨by rw [kPack, if_pos hok2, if_pos hok8, if_pos hok12, if_pos c_25], rfl⟩)) hP (Nat.le_of_ble_eq_true rfl) (Nat.le_of_ble_eq_true rfl)
  ·
    refine lv_iload_n hx hb dX3_pack_28 rfl (lv_at hl 4 rfl) ?_
    refine lv_aload_n hx hb dX3_pack_29 rfl (lv_at hl 1 rfl) ?_
    refine w_get hx hb hts iX3_pack_X3 hown hK hP 0 rfl rfl 0 (by decide) fX3_pack_10 rfl rfl dX3_pack_30 ?_
    refine w_getN hx hb hts iX3_pack_X0 hown hK hST hP 1 rfl rfl 0 (by decide) 10 rfl rfl rfl dX3_pack_33 ?_
    refine lv_iconst (v := 1) hx hb dX3_pack_36 (by decide) ?_
    refine w_ild hx hb hK hP 2 0 rfl rfl 1 rfl (by decide) (by decide) (v := f 2) rfl dX3_pack_37 ?_
    refine lv_icmp_le (tgt := 51) hx hb dX3_pack_38 (by decide) (fun c_38 => ?_) (fun c_38 => ?_)
    ·
      refine lv_aload_n hx hb dX3_pack_51 rfl (lv_at hl 1 rfl) ?_
      refine w_get hx hb hts iX3_pack_X3 hown hK hP 0 rfl rfl 0 (by decide) fX3_pack_10 rfl rfl dX3_pack_52 ?_
      refine w_getN hx hb hts iX3_pack_X0 hown hK hST hP 1 rfl rfl 0 (by decide) 10 rfl rfl rfl dX3_pack_55 ?_
      refine lv_iconst (v := 0) hx hb dX3_pack_58 (by decide) ?_
      refine lv_dup2_11 hx hb dX3_pack_59 rfl rfl ?_
      refine w_ild hx hb hK hP 2 0 rfl rfl 0 rfl (by decide) (by decide) (v := f 1) rfl dX3_pack_60 ?_
      refine lv_iload_n hx hb dX3_pack_61 rfl (lv_at hl 3 rfl) ?_
      refine lv_isub hx hb dX3_pack_62 ?_
      refine w_ist hx hb hK hP hD hS 2 0 rfl rfl 0 rfl (by decide) (by decide) (ws' := YW cI cC cT x A b0 nc nt (upd f 1 ((f 1) - v)) g) (congrArg (List.cons _) (cw_stock 0 (by decide) _)) dX3_pack_63 (fun H locs hP hD hS => ?_)
      refine lv_aload_n hx hb dX3_pack_64 rfl (lv_at hl 1 rfl) ?_
      refine w_get hx hb hts iX3_pack_X3 hown hK hP 0 rfl rfl 0 (by decide) fX3_pack_10 rfl rfl dX3_pack_65 ?_
      refine w_getN hx hb hts iX3_pack_X0 hown hK hST hP 1 rfl rfl 0 (by decide) 10 rfl rfl rfl dX3_pack_68 ?_
      refine lv_iconst (v := 1) hx hb dX3_pack_71 (by decide) ?_
      refine lv_dup2_11 hx hb dX3_pack_72 rfl rfl ?_
      refine w_ild hx hb hK hP 2 0 rfl rfl 1 rfl (by decide) (by decide) (v := (upd f 1 ((f 1) - v)) 2) rfl dX3_pack_73 ?_
      refine lv_iload_n hx hb dX3_pack_74 rfl (lv_at hl 4 rfl) ?_
      refine lv_isub hx hb dX3_pack_75 ?_
      refine w_ist hx hb hK hP hD hS 2 0 rfl rfl 1 rfl (by decide) (by decide) (ws' := YW cI cC cT x A b0 nc nt (upd (upd f 1 ((f 1) - v)) 2 (((upd f 1 ((f 1) - v)) 2) - z)) g) (congrArg (List.cons _) (cw_stock 1 (by decide) _)) dX3_pack_76 (fun H locs hP hD hS => ?_)
      refine lv_aload hx hb dX3_pack_77 (lv_at hl 0 rfl) ?_
      refine lv_aload hx hb dX3_pack_79 (lv_at hl 0 rfl) ?_
      refine w_getN hx hb hts iX3_pack_X1 hown hK hST hP ((5 + i) + 1) (yw_gchurn i (by omega)) rfl 0 (by decide) 0 rfl rfl rfl dX3_pack_81 ?_
      refine lv_iload_n hx hb dX3_pack_84 rfl (lv_at hl 3 rfl) ?_
      refine lv_iload_n hx hb dX3_pack_85 rfl (lv_at hl 4 rfl) ?_
      refine c0_S (As := [.int ((upd (upd f 1 ((f 1) - v)) 2 (((upd f 1 ((f 1) - v)) 2) - z)) (7 + 3 * i)), .int v, .int z]) (rest := [.ref (A (5 + i))]) ⟨hx, hb, hml, hown, hts⟩ (mX3_coldWithBrine l D cI cC cT cL ((upd (upd f 1 ((f 1) - v)) 2 (((upd f 1 ((f 1) - v)) 2) - z)) (7 + 3 * i)) v z) (va_cwS 3 hts gX3_pack_X3_coldWithBrine rfl rfl rfl pX3_coldWithBrine ⟨Nat.le_of_ble_eq_true rfl, Nat.le_of_ble_eq_true rfl⟩) hK hP hD hS hA hST (Jn_nil _) rfl hl.1 rfl (Nat.le_of_ble_eq_true rfl) dX3_pack_86 ⟨Nat.le_of_ble_eq_true rfl, Nat.le_of_ble_eq_true rfl⟩ rfl (fun H locs hP hD hS => ?_)
      refine w_putN (C := RX1) hx hb hts iX3_pack_X1 tyX1_ok nmX1 hown hK hST hP hD hS ((5 + i) + 1) (yw_gchurn i (by omega)) rfl 0 (by decide) 0 rfl rfl rfl rfl rfl (Nat.le_of_ble_eq_true rfl) (ws' := YW cI cC cT x A b0 nc nt (set3 (upd (upd f 1 ((f 1) - v)) 2 (((upd f 1 ((f 1) - v)) 2) - z)) (7 + 3 * i) (brine ((upd (upd f 1 ((f 1) - v)) 2 (((upd f 1 ((f 1) - v)) 2) - z)) (7 + 3 * i)) v z) ((upd (upd f 1 ((f 1) - v)) 2 (((upd f 1 ((f 1) - v)) 2) - z)) (8 + 3 * i)) ((upd (upd f 1 ((f 1) - v)) 2 (((upd f 1 ((f 1) - v)) 2) - z)) (9 + 3 * i))) g) (congrArg (List.cons _) (cw_churn i (by omega) _ _ _)) dX3_pack_89 (fun H locs hP hD hS => ?_)
      refine lv_aload hx hb dX3_pack_92 (lv_at hl 0 rfl) ?_
      refine w_getN hx hb hts iX3_pack_X1 hown hK hST hP ((5 + i) + 1) (yw_gchurn i (by omega)) rfl 0 (by decide) 0 rfl rfl rfl dX3_pack_94 ?_
      exact e1_i hx hb hr hlocks (by rw [kPack, if_pos hok2, if_pos hok8, if_pos hok12, if_neg c_25, if_neg (Int32.not_lt.mpr c_38)]) (P_eq (by first | (rw [nI_clamp (by omega), nI_clamp (by omega), nI_clamp (by omega), ← pack_eq rfl rfl] <;> rfl) | (rw [nI_clamp (by omega), nI_clamp (by omega), ← pack_eq rfl rfl] <;> rfl) | (rw [nI_clamp (by omega), ← pack_eq rfl rfl] <;> rfl) | (rw [← pack_eq rfl rfl] <;> rfl)) hP) hS dX3_pack_97 (by decide) (by decide) (by first | (rw [nI_clamp (by omega), nI_clamp (by omega), nI_clamp (by omega), ← pack_eq rfl rfl] <;> rfl) | (rw [nI_clamp (by omega), nI_clamp (by omega), ← pack_eq rfl rfl] <;> rfl) | (rw [nI_clamp (by omega), ← pack_eq rfl rfl] <;> rfl) | (rw [← pack_eq rfl rfl] <;> rfl))
    ·
      exact e1_throw hx hb hl0 hown hts (by decide +kernel) tkX3_pack_55 tiX3_pack_55 tgX3_pack_55 vg_3 vo_3 (by decide) hST (List.mem_of_getElem? (i := 8) rfl) hS (hl.1.trans hml.symm) dX3_pack_41 dX3_pack_44 dX3_pack_45 dX3_pack_47 dX3_pack_50 htab (Nat.le_of_ble_eq_true rfl) (Nat.le_of_ble_eq_true rfl) (Nat.le_of_ble_eq_true rfl) (Nat.le_of_ble_eq_true rfl) hlocks (Or.inr (Or.inr ⟨by rw [kPack, if_pos hok2, if_pos hok8, if_pos hok12, if_neg c_25, if_pos (Int32.not_le.mp c_38)], rfl⟩)) hP (Nat.le_of_ble_eq_true rfl) (Nat.le_of_ble_eq_true rfl)

set_option maxHeartbeats 4000000 in
set_option maxRecDepth 100000 in
theorem mX3_pour (l : Launch) (D : va_G) (cI cC cT cL : ClassId) (hl0 : l.stackTraces = false) (x b0 : Nat) (A : Nat → Nat) (nc nt : Nat) (f g : Nat → Int32) (u v : Int32) (hnc : nc ≤ 4) : M1 l yX3_pour wsX3_pour ({ frames := 7, cells := 2, slots := 12, locals := 111 } : Room) D (TY cI cC cT cL) [.ref x, .int u, .int v] (YW cI cC cT x A b0 nc nt f g) (kPour nc f u v = 0) (some (.int (pourF f u.toNatClampNeg v (9 + 3 * u.toNatClampNeg)))) (YW cI cC cT x A b0 nc nt (pourF f u.toNatClampNeg v) g) (XE (kPour nc f u v) IOOBE IAE ISE) 2 12 := by
  refine M1_of (cc := cX3_pour) (maxL := 4) (ret := (some .int)) (by decide +kernel) rfl (Nat.le_of_ble_eq_true rfl) ?_
  intro p e s m args below meth c A0 B htab ls hl
  obtain ⟨hx, hb, hml, hr, hown, hts, hlocks, hK, hP, hD, hA, hST, hnm⟩ := B
  have hown : s.vm.findClass RX3 = some m.cls := hown
  have hS : va_S A0 s.heap s.heap [] := va_S.rf
  have hl : lv_has ls 4 [(0, .ref x), (1, .int u), (2, .int v)] := hl
  refine lv_aload_n hx hb dX3_pour_0 rfl (lv_at hl 0 rfl) ?_
  refine lv_iload_n hx hb dX3_pour_1 rfl (lv_at hl 1 rfl) ?_
  refine c1_V (As := [.int u]) (rest := []) ⟨hx, hb, hml, hown, hts⟩ (mX3_existingChurn l D cI cC cT cL hl0 x b0 A nc nt f g u hnc) (cwV 1 hts gX3_pour_X3_existingChurn rfl rfl rfl pX3_existingChurn ⟨Nat.le_of_ble_eq_true rfl, Nat.le_of_ble_eq_true rfl⟩) hK hP hD hS hA hST (Jn_all _ _ (rfl)) (Jn_all _ _ rfl) 0 rfl rfl rfl rfl hl.1 rfl (Nat.le_of_ble_eq_true rfl) dX3_pour_2 ⟨Nat.le_of_ble_eq_true rfl, Nat.le_of_ble_eq_true rfl⟩ rfl (fun E ce q9 H locs hE hP hS h1 h2 h3 => e1_out htab hlocks (Or.inl ⟨by rw [kPour, if_neg hE.1], hE.2⟩) hP hS h1 h2 h3 (by decide) (by decide)) (fun hok2 H locs hP hD hS => ?_)
  obtain ⟨i, hi, ei⟩ := inR_n (by omega) hok2
  subst ei
  rw [nI_clamp (by omega)]
  refine lv_astore_n (lv' := [(3, .ref (A (5 + i))), (0, .ref x), (1, .int (nI i)), (2, .int v)]) hx hb dX3_pour_5 rfl hl (by decide) rfl (fun ls hl => ?_)
  refine lv_iload_n hx hb dX3_pour_6 rfl (lv_at hl 3 rfl) ?_
  refine lv_iconst (v := 1) hx hb dX3_pour_7 (by decide) ?_
  refine lv_icmp_lt (tgt := 17) hx hb dX3_pour_8 (by decide) (fun c_8 => ?_) (fun c_8 => ?_)
  ·
    exact e1_throw hx hb hl0 hown hts (by decide +kernel) tkX3_pour_26 tiX3_pour_26 tgX3_pour_26 vg_2 vo_2 (by decide) hST (List.mem_of_getElem? (i := 9) rfl) hS (hl.1.trans hml.symm) dX3_pour_17 dX3_pour_20 dX3_pour_21 dX3_pour_23 dX3_pour_26 htab (Nat.le_of_ble_eq_true rfl) (Nat.le_of_ble_eq_true rfl) (Nat.le_of_ble_eq_true rfl) (Nat.le_of_ble_eq_true rfl) hlocks (Or.inr (Or.inl ⟨by rw [kPour, nI_clamp (by omega), if_pos hok2, if_neg (fun h => absurd h.1 (Int32.not_le.mpr c_8))], rfl⟩)) hP (Nat.le_of_ble_eq_true rfl) (Nat.le_of_ble_eq_true rfl)
  ·
    refine lv_iload_n hx hb dX3_pour_11 rfl (lv_at hl 3 rfl) ?_
    refine lv_bipush (v := 20) hx hb dX3_pour_12 (by decide) ?_
    refine lv_icmp_le (tgt := 27) hx hb dX3_pour_14 (by decide) (fun c_14 => ?_) (fun c_14 => ?_)
    ·
      refine lv_iload_n hx hb dX3_pour_27 rfl (lv_at hl 3 rfl) ?_
      refine lv_aload_n hx hb dX3_pour_28 rfl (lv_at hl 1 rfl) ?_
      refine w_get hx hb hts iX3_pour_X3 hown hK hP 0 rfl rfl 0 (by decide) fX3_pour_10 rfl rfl dX3_pour_29 ?_
      refine w_getN hx hb hts iX3_pour_X0 hown hK hST hP 1 rfl rfl 0 (by decide) 10 rfl rfl rfl dX3_pour_32 ?_
      refine lv_iconst (v := 2) hx hb dX3_pour_35 (by decide) ?_
      refine w_ild hx hb hK hP 2 0 rfl rfl 2 rfl (by decide) (by decide) (v := f 3) rfl dX3_pour_36 ?_
      refine lv_icmp_le (tgt := 50) hx hb dX3_pour_37 (by decide) (fun c_37 => ?_) (fun c_37 => ?_)
      ·
        refine lv_aload_n hx hb dX3_pour_50 rfl (lv_at hl 0 rfl) ?_
        refine w_getN hx hb hts iX3_pour_X1 hown hK hST hP ((5 + i) + 1) (yw_gchurn i (by omega)) rfl 1 (by decide) 2 rfl rfl rfl dX3_pour_51 ?_
        refine lv_iload_n hx hb dX3_pour_54 rfl (lv_at hl 3 rfl) ?_
        refine lv_iadd hx hb dX3_pour_55 ?_
        refine lv_bipush (v := 20) hx hb dX3_pour_56 (by decide) ?_
        refine lv_icmp_le (tgt := 71) hx hb dX3_pour_58 (by decide) (fun c_58 => ?_) (fun c_58 => ?_)
        ·
          refine lv_aload_n hx hb dX3_pour_71 rfl (lv_at hl 1 rfl) ?_
          refine w_get hx hb hts iX3_pour_X3 hown hK hP 0 rfl rfl 0 (by decide) fX3_pour_10 rfl rfl dX3_pour_72 ?_
          refine w_getN hx hb hts iX3_pour_X0 hown hK hST hP 1 rfl rfl 0 (by decide) 10 rfl rfl rfl dX3_pour_75 ?_
          refine lv_iconst (v := 2) hx hb dX3_pour_78 (by decide) ?_
          refine lv_dup2_11 hx hb dX3_pour_79 rfl rfl ?_
          refine w_ild hx hb hK hP 2 0 rfl rfl 2 rfl (by decide) (by decide) (v := f 3) rfl dX3_pour_80 ?_
          refine lv_iload_n hx hb dX3_pour_81 rfl (lv_at hl 3 rfl) ?_
          refine lv_isub hx hb dX3_pour_82 ?_
          refine w_ist hx hb hK hP hD hS 2 0 rfl rfl 2 rfl (by decide) (by decide) (ws' := YW cI cC cT x A b0 nc nt (upd f 3 ((f 3) - v)) g) (congrArg (List.cons _) (cw_stock 2 (by decide) _)) dX3_pour_83 (fun H locs hP hD hS => ?_)
          refine lv_aload_n hx hb dX3_pour_84 rfl (lv_at hl 0 rfl) ?_
          refine lv_iload_n hx hb dX3_pour_85 rfl (lv_at hl 3 rfl) ?_
          refine c0_V (As := [.int v]) (rest := []) ⟨hx, hb, hml, hown, hts⟩ (mX1_add l D cI cC cT cL (A (5 + i)) ((upd f 3 ((f 3) - v)) (7 + 3 * i)) ((upd f 3 ((f 3) - v)) (8 + 3 * i)) ((upd f 3 ((f 3) - v)) (9 + 3 * i)) v) (cwV 1 hts gX3_pour_X1_add rfl rfl rfl pX1_add ⟨Nat.le_of_ble_eq_true rfl, Nat.le_of_ble_eq_true rfl⟩) hK hP hD hS hA hST (Jn_ychurn i (by omega) _ _ _) 0 rfl rfl rfl rfl hl.1 rfl (Nat.le_of_ble_eq_true rfl) dX3_pour_86 ⟨Nat.le_of_ble_eq_true rfl, Nat.le_of_ble_eq_true rfl⟩ rfl (fun H locs hP hD hS => ?_)
          refine lv_aload_n hx hb dX3_pour_89 rfl (lv_at hl 0 rfl) ?_
          refine w_getN hx hb hts iX3_pour_X1 hown hK hST hP ((5 + i) + 1) (yw_gchurn i (by omega)) rfl 2 (by decide) 4 rfl rfl rfl dX3_pour_90 ?_
          exact e1_i hx hb hr hlocks (by rw [kPour, nI_clamp (by omega), if_pos hok2, if_pos ⟨Int32.not_lt.mp c_8, c_14⟩, if_neg (Int32.not_lt.mpr c_37), if_neg (Int32.not_lt.mpr c_58)]) (P_eq (by first | (rw [nI_clamp (by omega), nI_clamp (by omega), nI_clamp (by omega), ← pour_eq] <;> rfl) | (rw [nI_clamp (by omega), nI_clamp (by omega), ← pour_eq] <;> rfl) | (rw [nI_clamp (by omega), ← pour_eq] <;> rfl) | (rw [← pour_eq] <;> rfl)) hP) hS dX3_pour_93 (by decide) (by decide) (by first | (rw [nI_clamp (by omega), nI_clamp (by omega), nI_clamp (by omega), ← pour_eq] <;> rfl) | (rw [nI_clamp (by omega), nI_clamp (by omega), ← pour_eq] <;> rfl) | (rw [nI_clamp (by omega), ← pour_eq] <;> rfl) | (rw [← pour_eq] <;> rfl))
        ·
          exact e1_throw hx hb hl0 hown hts (by decide +kernel) tkX3_pour_55 tiX3_pour_55 tgX3_pour_55 vg_3 vo_3 (by decide) hST (List.mem_of_getElem? (i := 17) rfl) hS (hl.1.trans hml.symm) dX3_pour_61 dX3_pour_64 dX3_pour_65 dX3_pour_67 dX3_pour_70 htab (Nat.le_of_ble_eq_true rfl) (Nat.le_of_ble_eq_true rfl) (Nat.le_of_ble_eq_true rfl) (Nat.le_of_ble_eq_true rfl) hlocks (Or.inr (Or.inr ⟨by rw [kPour, nI_clamp (by omega), if_pos hok2, if_pos ⟨Int32.not_lt.mp c_8, c_14⟩, if_neg (Int32.not_lt.mpr c_37), if_pos (Int32.not_le.mp c_58)], rfl⟩)) hP (Nat.le_of_ble_eq_true rfl) (Nat.le_of_ble_eq_true rfl)
      ·
        exact e1_throw hx hb hl0 hown hts (by decide +kernel) tkX3_pour_55 tiX3_pour_55 tgX3_pour_55 vg_3 vo_3 (by decide) hST (List.mem_of_getElem? (i := 10) rfl) hS (hl.1.trans hml.symm) dX3_pour_40 dX3_pour_43 dX3_pour_44 dX3_pour_46 dX3_pour_49 htab (Nat.le_of_ble_eq_true rfl) (Nat.le_of_ble_eq_true rfl) (Nat.le_of_ble_eq_true rfl) (Nat.le_of_ble_eq_true rfl) hlocks (Or.inr (Or.inr ⟨by rw [kPour, nI_clamp (by omega), if_pos hok2, if_pos ⟨Int32.not_lt.mp c_8, c_14⟩, if_pos (Int32.not_le.mp c_37)], rfl⟩)) hP (Nat.le_of_ble_eq_true rfl) (Nat.le_of_ble_eq_true rfl)
    ·
      exact e1_throw hx hb hl0 hown hts (by decide +kernel) tkX3_pour_26 tiX3_pour_26 tgX3_pour_26 vg_2 vo_2 (by decide) hST (List.mem_of_getElem? (i := 9) rfl) hS (hl.1.trans hml.symm) dX3_pour_17 dX3_pour_20 dX3_pour_21 dX3_pour_23 dX3_pour_26 htab (Nat.le_of_ble_eq_true rfl) (Nat.le_of_ble_eq_true rfl) (Nat.le_of_ble_eq_true rfl) (Nat.le_of_ble_eq_true rfl) hlocks (Or.inr (Or.inl ⟨by rw [kPour, nI_clamp (by omega), if_pos hok2, if_neg (fun h => c_14 h.2)], rfl⟩)) hP (Nat.le_of_ble_eq_true rfl) (Nat.le_of_ble_eq_true rfl)

set_option maxHeartbeats 4000000 in
set_option maxRecDepth 100000 in
theorem mX3_scoop (l : Launch) (D : va_G) (cI cC cT cL : ClassId) (hl0 : l.stackTraces = false) (x b0 : Nat) (A : Nat → Nat) (nc nt : Nat) (f g : Nat → Int32) (u v : Int32) (hnc : nc ≤ 4) (hnt : nt ≤ 6) : M1 l yX3_scoop wsX3_scoop ({ frames := 7, cells := 3, slots := 18, locals := 111 } : Room) D (TY cI cC cT cL) [.ref x, .int u, .int v] (YW cI cC cT x A b0 nc nt f g) (kScoop nc nt f u v = 0) (some (.int (scoopF f u.toNatClampNeg v.toNatClampNeg (19 + 3 * v.toNatClampNeg)))) (YW cI cC cT x A b0 nc nt (scoopF f u.toNatClampNeg v.toNatClampNeg) g) (XE (kScoop nc nt f u v) IOOBE ISE IAE) 3 18 := by
  refine M1_of (cc := cX3_scoop) (maxL := 5) (ret := (some .int)) (by decide +kernel) rfl (Nat.le_of_ble_eq_true rfl) ?_
  intro p e s m args below meth c A0 B htab ls hl
  obtain ⟨hx, hb, hml, hr, hown, hts, hlocks, hK, hP, hD, hA, hST, hnm⟩ := B
  have hown : s.vm.findClass RX3 = some m.cls := hown
  have hS : va_S A0 s.heap s.heap [] := va_S.rf
  have hl : lv_has ls 5 [(0, .ref x), (1, .int u), (2, .int v)] := hl
  refine lv_aload_n hx hb dX3_scoop_0 rfl (lv_at hl 0 rfl) ?_
  refine lv_iload_n hx hb dX3_scoop_1 rfl (lv_at hl 1 rfl) ?_
  refine c1_V (As := [.int u]) (rest := []) ⟨hx, hb, hml, hown, hts⟩ (mX3_existingChurn l D cI cC cT cL hl0 x b0 A nc nt f g u hnc) (cwV 1 hts gX3_scoop_X3_existingChurn rfl rfl rfl pX3_existingChurn ⟨Nat.le_of_ble_eq_true rfl, Nat.le_of_ble_eq_true rfl⟩) hK hP hD hS hA hST (Jn_all _ _ (rfl)) (Jn_all _ _ rfl) 0 rfl rfl rfl rfl hl.1 rfl (Nat.le_of_ble_eq_true rfl) dX3_scoop_2 ⟨Nat.le_of_ble_eq_true rfl, Nat.le_of_ble_eq_true rfl⟩ rfl (fun E ce q9 H locs hE hP hS h1 h2 h3 => e1_out htab hlocks (Or.inl ⟨by rw [kScoop, if_neg hE.1], hE.2⟩) hP hS h1 h2 h3 (by decide) (by decide)) (fun hok2 H locs hP hD hS => ?_)
  obtain ⟨i, hi, ei⟩ := inR_n (by omega) hok2
  subst ei
  rw [nI_clamp (by omega)]
  refine lv_astore_n (lv' := [(3, .ref (A (5 + i))), (0, .ref x), (1, .int (nI i)), (2, .int v)]) hx hb dX3_scoop_5 rfl hl (by decide) rfl (fun ls hl => ?_)
  refine lv_aload_n hx hb dX3_scoop_6 rfl (lv_at hl 1 rfl) ?_
  refine lv_iload_n hx hb dX3_scoop_7 rfl (lv_at hl 3 rfl) ?_
  refine c1_V (As := [.int v]) (rest := []) ⟨hx, hb, hml, hown, hts⟩ (mX3_existingTub l D cI cC cT cL hl0 x b0 A nc nt f g v hnt) (cwV 1 hts gX3_scoop_X3_existingTub rfl rfl rfl pX3_existingTub ⟨Nat.le_of_ble_eq_true rfl, Nat.le_of_ble_eq_true rfl⟩) hK hP hD hS hA hST (Jn_all _ _ (rfl)) (Jn_all _ _ rfl) 0 rfl rfl rfl rfl hl.1 rfl (Nat.le_of_ble_eq_true rfl) dX3_scoop_8 ⟨Nat.le_of_ble_eq_true rfl, Nat.le_of_ble_eq_true rfl⟩ rfl (fun E ce q9 H locs hE hP hS h1 h2 h3 => e1_out htab hlocks (Or.inl ⟨by rw [kScoop, if_pos hok2, if_neg hE.1], hE.2⟩) hP hS h1 h2 h3 (by decide) (by decide)) (fun hok8 H locs hP hD hS => ?_)
  obtain ⟨t, ht, et⟩ := inR_n (by omega) hok8
  subst et
  rw [nI_clamp (by omega)]
  refine lv_astore (lv' := [(4, .ref (A (9 + t))), (3, .ref (A (5 + i))), (0, .ref x), (1, .int (nI i)), (2, .int (nI t))]) hx hb dX3_scoop_11 hl (by decide) rfl (fun ls hl => ?_)
  refine lv_aload_n hx hb dX3_scoop_13 rfl (lv_at hl 1 rfl) ?_
  refine w_getN hx hb hts iX3_scoop_X1 hown hK hST hP ((5 + i) + 1) (yw_gchurn i (by omega)) rfl 1 (by decide) 2 rfl rfl rfl dX3_scoop_14 ?_
  refine lv_if_eq (tgt := 29) hx hb dX3_scoop_17 (by decide) (fun c_17 => ?_) (fun c_17 => ?_)
  ·
    exact e1_throw hx hb hl0 hown hts (by decide +kernel) tkX3_scoop_55 tiX3_scoop_55 tgX3_scoop_55 vg_3 vo_3 (by decide) hST (List.mem_of_getElem? (i := 12) rfl) hS (hl.1.trans hml.symm) dX3_scoop_29 dX3_scoop_32 dX3_scoop_33 dX3_scoop_35 dX3_scoop_38 htab (Nat.le_of_ble_eq_true rfl) (Nat.le_of_ble_eq_true rfl) (Nat.le_of_ble_eq_true rfl) (Nat.le_of_ble_eq_true rfl) hlocks (Or.inr (Or.inl ⟨by rw [kScoop, nI_clamp (by omega), if_pos hok2, if_pos hok8, if_pos c_17], rfl⟩)) hP (Nat.le_of_ble_eq_true rfl) (Nat.le_of_ble_eq_true rfl)
  ·
    refine lv_aload_n hx hb dX3_scoop_20 rfl (lv_at hl 1 rfl) ?_
    refine w_getN hx hb hts iX3_scoop_X1 hown hK hST hP ((5 + i) + 1) (yw_gchurn i (by omega)) rfl 2 (by decide) 4 rfl rfl rfl dX3_scoop_21 ?_
    refine lv_bipush (v := 50) hx hb dX3_scoop_24 (by decide) ?_
    refine lv_icmp_ge (tgt := 39) hx hb dX3_scoop_26 (by decide) (fun c_26 => ?_) (fun c_26 => ?_)
    ·
      refine lv_aload hx hb dX3_scoop_39 (lv_at hl 0 rfl) ?_
      refine lv_aload_n hx hb dX3_scoop_41 rfl (lv_at hl 1 rfl) ?_
      refine w_getN hx hb hts iX3_scoop_X1 hown hK hST hP ((5 + i) + 1) (yw_gchurn i (by omega)) rfl 1 (by decide) 2 rfl rfl rfl dX3_scoop_42 ?_
      refine lv_aload_n hx hb dX3_scoop_45 rfl (lv_at hl 1 rfl) ?_
      refine w_getN hx hb hts iX3_scoop_X1 hown hK hST hP ((5 + i) + 1) (yw_gchurn i (by omega)) rfl 2 (by decide) 4 rfl rfl rfl dX3_scoop_46 ?_
      refine c0_V (As := [.int (f (8 + 3 * i)), .int (f (9 + 3 * i))]) (rest := []) ⟨hx, hb, hml, hown, hts⟩ (mX2_take l D cI cC cT cL (A (9 + t)) (f (19 + 3 * t)) (f (20 + 3 * t)) (f (21 + 3 * t)) (f (8 + 3 * i)) (f (9 + 3 * i))) (cwV 2 hts gX3_scoop_X2_take rfl rfl rfl pX2_take ⟨Nat.le_of_ble_eq_true rfl, Nat.le_of_ble_eq_true rfl⟩) hK hP hD hS hA hST (Jn_ytub t (by omega) _ _ _) 0 rfl rfl rfl rfl hl.1 rfl (Nat.le_of_ble_eq_true rfl) dX3_scoop_49 ⟨Nat.le_of_ble_eq_true rfl, Nat.le_of_ble_eq_true rfl⟩ rfl (fun H locs hP hD hS => ?_)
      refine lv_aload_n hx hb dX3_scoop_52 rfl (lv_at hl 1 rfl) ?_
      refine lv_iconst (v := 0) hx hb dX3_scoop_53 (by decide) ?_
      refine w_putN (C := RX1) hx hb hts iX3_scoop_X1 tyX1_ok nmX1 hown hK hST hP hD hS ((5 + i) + 1) (yw_gchurn i (by omega)) rfl 1 (by decide) 2 rfl rfl rfl rfl rfl (Nat.le_of_ble_eq_true rfl) (ws' := YW cI cC cT x A b0 nc nt (set3 (set3 f (19 + 3 * t) (imn 60 ((f (19 + 3 * t)) + 2 * (f (8 + 3 * i)))) (imx (f (20 + 3 * t)) (100 - (f (9 + 3 * i)))) (f (21 + 3 * t))) (7 + 3 * i) ((set3 f (19 + 3 * t) (imn 60 ((f (19 + 3 * t)) + 2 * (f (8 + 3 * i)))) (imx (f (20 + 3 * t)) (100 - (f (9 + 3 * i)))) (f (21 + 3 * t))) (7 + 3 * i)) 0 ((set3 f (19 + 3 * t) (imn 60 ((f (19 + 3 * t)) + 2 * (f (8 + 3 * i)))) (imx (f (20 + 3 * t)) (100 - (f (9 + 3 * i)))) (f (21 + 3 * t))) (9 + 3 * i))) g) (congrArg (List.cons _) (cw_churn i (by omega) _ _ _)) dX3_scoop_54 (fun H locs hP hD hS => ?_)
      refine lv_aload_n hx hb dX3_scoop_57 rfl (lv_at hl 1 rfl) ?_
      refine lv_iconst (v := 0) hx hb dX3_scoop_58 (by decide) ?_
      refine w_putN (C := RX1) hx hb hts iX3_scoop_X1 tyX1_ok nmX1 hown hK hST hP hD hS ((5 + i) + 1) (yw_gchurn i (by omega)) rfl 2 (by decide) 4 rfl rfl rfl rfl rfl (Nat.le_of_ble_eq_true rfl) (ws' := YW cI cC cT x A b0 nc nt (set3 (set3 (set3 f (19 + 3 * t) (imn 60 ((f (19 + 3 * t)) + 2 * (f (8 + 3 * i)))) (imx (f (20 + 3 * t)) (100 - (f (9 + 3 * i)))) (f (21 + 3 * t))) (7 + 3 * i) ((set3 f (19 + 3 * t) (imn 60 ((f (19 + 3 * t)) + 2 * (f (8 + 3 * i)))) (imx (f (20 + 3 * t)) (100 - (f (9 + 3 * i)))) (f (21 + 3 * t))) (7 + 3 * i)) 0 ((set3 f (19 + 3 * t) (imn 60 ((f (19 + 3 * t)) + 2 * (f (8 + 3 * i)))) (imx (f (20 + 3 * t)) (100 - (f (9 + 3 * i)))) (f (21 + 3 * t))) (9 + 3 * i))) (7 + 3 * i) ((set3 (set3 f (19 + 3 * t) (imn 60 ((f (19 + 3 * t)) + 2 * (f (8 + 3 * i)))) (imx (f (20 + 3 * t)) (100 - (f (9 + 3 * i)))) (f (21 + 3 * t))) (7 + 3 * i) ((set3 f (19 + 3 * t) (imn 60 ((f (19 + 3 * t)) + 2 * (f (8 + 3 * i)))) (imx (f (20 + 3 * t)) (100 - (f (9 + 3 * i)))) (f (21 + 3 * t))) (7 + 3 * i)) 0 ((set3 f (19 + 3 * t) (imn 60 ((f (19 + 3 * t)) + 2 * (f (8 + 3 * i)))) (imx (f (20 + 3 * t)) (100 - (f (9 + 3 * i)))) (f (21 + 3 * t))) (9 + 3 * i))) (7 + 3 * i)) ((set3 (set3 f (19 + 3 * t) (imn 60 ((f (19 + 3 * t)) + 2 * (f (8 + 3 * i)))) (imx (f (20 + 3 * t)) (100 - (f (9 + 3 * i)))) (f (21 + 3 * t))) (7 + 3 * i) ((set3 f (19 + 3 * t) (imn 60 ((f (19 + 3 * t)) + 2 * (f (8 + 3 * i)))) (imx (f (20 + 3 * t)) (100 - (f (9 + 3 * i)))) (f (21 + 3 * t))) (7 + 3 * i)) 0 ((set3 f (19 + 3 * t) (imn 60 ((f (19 + 3 * t)) + 2 * (f (8 + 3 * i)))) (imx (f (20 + 3 * t)) (100 - (f (9 + 3 * i)))) (f (21 + 3 * t))) (9 + 3 * i))) (8 + 3 * i)) 0) g) (congrArg (List.cons _) (cw_churn i (by omega) _ _ _)) dX3_scoop_59 (fun H locs hP hD hS => ?_)
      refine lv_aload hx hb dX3_scoop_62 (lv_at hl 0 rfl) ?_
      refine w_getN hx hb hts iX3_scoop_X2 hown hK hST hP ((9 + t) + 1) (yw_gtub t (by omega)) rfl 0 (by decide) 7 rfl rfl rfl dX3_scoop_64 ?_
      exact e1_i hx hb hr hlocks (by rw [kScoop, nI_clamp (by omega), if_pos hok2, if_pos hok8, if_neg c_17, if_neg (Int32.not_lt.mpr c_26)]) (P_eq (by first | (rw [nI_clamp (by omega), nI_clamp (by omega), nI_clamp (by omega), ← scoop_eq (by omega) rfl] <;> rfl) | (rw [nI_clamp (by omega), nI_clamp (by omega), ← scoop_eq (by omega) rfl] <;> rfl) | (rw [nI_clamp (by omega), ← scoop_eq (by omega) rfl] <;> rfl) | (rw [← scoop_eq (by omega) rfl] <;> rfl)) hP) hS dX3_scoop_67 (by decide) (by decide) (by first | (rw [nI_clamp (by omega), nI_clamp (by omega), nI_clamp (by omega), ← scoop_eq (by omega) rfl] <;> rfl) | (rw [nI_clamp (by omega), nI_clamp (by omega), ← scoop_eq (by omega) rfl] <;> rfl) | (rw [nI_clamp (by omega), ← scoop_eq (by omega) rfl] <;> rfl) | (rw [← scoop_eq (by omega) rfl] <;> rfl))
    ·
      exact e1_throw hx hb hl0 hown hts (by decide +kernel) tkX3_scoop_55 tiX3_scoop_55 tgX3_scoop_55 vg_3 vo_3 (by decide) hST (List.mem_of_getElem? (i := 12) rfl) hS (hl.1.trans hml.symm) dX3_scoop_29 dX3_scoop_32 dX3_scoop_33 dX3_scoop_35 dX3_scoop_38 htab (Nat.le_of_ble_eq_true rfl) (Nat.le_of_ble_eq_true rfl) (Nat.le_of_ble_eq_true rfl) (Nat.le_of_ble_eq_true rfl) hlocks (Or.inr (Or.inl ⟨by rw [kScoop, nI_clamp (by omega), if_pos hok2, if_pos hok8, if_neg c_17, if_pos (Int32.not_le.mp c_26)], rfl⟩)) hP (Nat.le_of_ble_eq_true rfl) (Nat.le_of_ble_eq_true rfl)

set_option maxHeartbeats 4000000 in
set_option maxRecDepth 100000 in
theorem mX3_told (l : Launch) (D : va_G) (cI cC cT cL : ClassId) (hl0 : l.stackTraces = false) (x b0 : Nat) (A : Nat → Nat) (nc nt : Nat) (f g : Nat → Int32) (u v : Int32) (hnc : nc ≤ 4) : M1 l yX3_told wsX3_told ({ frames := 7, cells := 2, slots := 12, locals := 111 } : Room) D (TY cI cC cT cL) [.ref x, .int u, .int v] (YW cI cC cT x A b0 nc nt f g) (kTold nc u v = 0) (some (.int (pick3 v.toNatClampNeg (f (7 + 3 * u.toNatClampNeg)) (f (8 + 3 * u.toNatClampNeg)) (f (9 + 3 * u.toNatClampNeg))))) (YW cI cC cT x A b0 nc nt f g) (XE (kTold nc u v) IOOBE IAE ISE) 2 12 := by
  refine M1_of (cc := cX3_told) (maxL := 4) (ret := (some .int)) (by decide +kernel) rfl (Nat.le_of_ble_eq_true rfl) ?_
  intro p e s m args below meth c A0 B htab ls hl
  obtain ⟨hx, hb, hml, hr, hown, hts, hlocks, hK, hP, hD, hA, hST, hnm⟩ := B
  have hown : s.vm.findClass RX3 = some m.cls := hown
  have hS : va_S A0 s.heap s.heap [] := va_S.rf
  have hl : lv_has ls 4 [(0, .ref x), (1, .int u), (2, .int v)] := hl
  refine lv_aload_n hx hb dX3_told_0 rfl (lv_at hl 0 rfl) ?_
  refine lv_iload_n hx hb dX3_told_1 rfl (lv_at hl 1 rfl) ?_
  refine c1_V (As := [.int u]) (rest := []) ⟨hx, hb, hml, hown, hts⟩ (mX3_existingChurn l D cI cC cT cL hl0 x b0 A nc nt f g u hnc) (cwV 1 hts gX3_told_X3_existingChurn rfl rfl rfl pX3_existingChurn ⟨Nat.le_of_ble_eq_true rfl, Nat.le_of_ble_eq_true rfl⟩) hK hP hD hS hA hST (Jn_all _ _ (rfl)) (Jn_all _ _ rfl) 0 rfl rfl rfl rfl hl.1 rfl (Nat.le_of_ble_eq_true rfl) dX3_told_2 ⟨Nat.le_of_ble_eq_true rfl, Nat.le_of_ble_eq_true rfl⟩ rfl (fun E ce q9 H locs hE hP hS h1 h2 h3 => e1_out htab hlocks (Or.inl ⟨by rw [kTold, if_neg hE.1], hE.2⟩) hP hS h1 h2 h3 (by decide) (by decide)) (fun hok2 H locs hP hD hS => ?_)
  obtain ⟨i, hi, ei⟩ := inR_n (by omega) hok2
  subst ei
  rw [nI_clamp (by omega)]
  refine lv_astore_n (lv' := [(3, .ref (A (5 + i))), (0, .ref x), (1, .int (nI i)), (2, .int v)]) hx hb dX3_told_5 rfl hl (by decide) rfl (fun ls hl => ?_)
  refine lv_iload_n hx hb dX3_told_6 rfl (lv_at hl 3 rfl) ?_
  refine lv_if_lt (tgt := 15) hx hb dX3_told_7 (by decide) (fun c_7 => ?_) (fun c_7 => ?_)
  ·
    exact e1_throw hx hb hl0 hown hts (by decide +kernel) tkX3_told_19 tiX3_told_19 tgX3_told_19 vg_1 vo_1 (by decide) hST (List.mem_of_getElem? (i := 13) rfl) hS (hl.1.trans hml.symm) dX3_told_15 dX3_told_18 dX3_told_19 dX3_told_21 dX3_told_24 htab (Nat.le_of_ble_eq_true rfl) (Nat.le_of_ble_eq_true rfl) (Nat.le_of_ble_eq_true rfl) (Nat.le_of_ble_eq_true rfl) hlocks (Or.inl ⟨by rw [kTold, if_pos hok2, if_neg (fun h => absurd h.1 (Int32.not_le.mpr c_7))], rfl⟩) hP (Nat.le_of_ble_eq_true rfl) (Nat.le_of_ble_eq_true rfl)
  ·
    refine lv_iload_n hx hb dX3_told_10 rfl (lv_at hl 3 rfl) ?_
    refine lv_iconst (v := 3) hx hb dX3_told_11 (by decide) ?_
    refine lv_icmp_lt (tgt := 25) hx hb dX3_told_12 (by decide) (fun c_12 => ?_) (fun c_12 => ?_)
    ·
      obtain ⟨w, hw, ew⟩ := cIn_n 2 (by decide) (Int32.not_lt.mp c_7) (le2 c_12)
      subst ew
      refine lv_aload_n hx hb dX3_told_25 rfl (lv_at hl 0 rfl) ?_
      refine lv_iload_n hx hb dX3_told_26 rfl (lv_at hl 3 rfl) ?_
      refine c0_V (As := [.int (nI w)]) (rest := []) ⟨hx, hb, hml, hown, hts⟩ (mX1_number l D cI cC cT cL (A (5 + i)) (f (7 + 3 * i)) (f (8 + 3 * i)) (f (9 + 3 * i)) w (by omega)) (cwV 1 hts gX3_told_X1_number rfl rfl rfl pX1_number ⟨Nat.le_of_ble_eq_true rfl, Nat.le_of_ble_eq_true rfl⟩) hK hP hD hS hA hST (Jn_ychurn0 i (by omega)) 0 rfl rfl rfl rfl hl.1 rfl (Nat.le_of_ble_eq_true rfl) dX3_told_27 ⟨Nat.le_of_ble_eq_true rfl, Nat.le_of_ble_eq_true rfl⟩ rfl (fun H locs hP hD hS => ?_)
      exact e1_i hx hb hr hlocks (by rw [kTold, if_pos hok2, if_pos ⟨Int32.not_lt.mp c_7, le2 c_12⟩]) hP hS dX3_told_30 (by decide) (by decide) (by first | (rw [nI_clamp (by omega), nI_clamp (by omega), nI_clamp (by omega)] <;> rfl) | (rw [nI_clamp (by omega), nI_clamp (by omega)] <;> rfl) | (rw [nI_clamp (by omega)] <;> rfl) | rfl)
    ·
      exact e1_throw hx hb hl0 hown hts (by decide +kernel) tkX3_told_19 tiX3_told_19 tgX3_told_19 vg_1 vo_1 (by decide) hST (List.mem_of_getElem? (i := 13) rfl) hS (hl.1.trans hml.symm) dX3_told_15 dX3_told_18 dX3_told_19 dX3_told_21 dX3_told_24 htab (Nat.le_of_ble_eq_true rfl) (Nat.le_of_ble_eq_true rfl) (Nat.le_of_ble_eq_true rfl) (Nat.le_of_ble_eq_true rfl) hlocks (Or.inl ⟨by rw [kTold, if_pos hok2, if_neg (fun h => c_12 (lt3 h.2))], rfl⟩) hP (Nat.le_of_ble_eq_true rfl) (Nat.le_of_ble_eq_true rfl)

set_option maxHeartbeats 4000000 in
set_option maxRecDepth 100000 in
theorem mX3_about (l : Launch) (D : va_G) (cI cC cT cL : ClassId) (hl0 : l.stackTraces = false) (x b0 : Nat) (A : Nat → Nat) (nc nt : Nat) (f g : Nat → Int32) (u v : Int32) (hnt : nt ≤ 6) : M1 l yX3_about wsX3_about ({ frames := 7, cells := 2, slots := 12, locals := 111 } : Room) D (TY cI cC cT cL) [.ref x, .int u, .int v] (YW cI cC cT x A b0 nc nt f g) (kTold nt u v = 0) (some (.int (pick3 v.toNatClampNeg (f (19 + 3 * u.toNatClampNeg)) (f (20 + 3 * u.toNatClampNeg)) (f (21 + 3 * u.toNatClampNeg))))) (YW cI cC cT x A b0 nc nt f g) (XE (kTold nt u v) IOOBE IAE ISE) 2 12 := by
  refine M1_of (cc := cX3_about) (maxL := 4) (ret := (some .int)) (by decide +kernel) rfl (Nat.le_of_ble_eq_true rfl) ?_
  intro p e s m args below meth c A0 B htab ls hl
  obtain ⟨hx, hb, hml, hr, hown, hts, hlocks, hK, hP, hD, hA, hST, hnm⟩ := B
  have hown : s.vm.findClass RX3 = some m.cls := hown
  have hS : va_S A0 s.heap s.heap [] := va_S.rf
  have hl : lv_has ls 4 [(0, .ref x), (1, .int u), (2, .int v)] := hl
  refine lv_aload_n hx hb dX3_about_0 rfl (lv_at hl 0 rfl) ?_
  refine lv_iload_n hx hb dX3_about_1 rfl (lv_at hl 1 rfl) ?_
  refine c1_V (As := [.int u]) (rest := []) ⟨hx, hb, hml, hown, hts⟩ (mX3_existingTub l D cI cC cT cL hl0 x b0 A nc nt f g u hnt) (cwV 1 hts gX3_about_X3_existingTub rfl rfl rfl pX3_existingTub ⟨Nat.le_of_ble_eq_true rfl, Nat.le_of_ble_eq_true rfl⟩) hK hP hD hS hA hST (Jn_all _ _ (rfl)) (Jn_all _ _ rfl) 0 rfl rfl rfl rfl hl.1 rfl (Nat.le_of_ble_eq_true rfl) dX3_about_2 ⟨Nat.le_of_ble_eq_true rfl, Nat.le_of_ble_eq_true rfl⟩ rfl (fun E ce q9 H locs hE hP hS h1 h2 h3 => e1_out htab hlocks (Or.inl ⟨by rw [kTold, if_neg hE.1], hE.2⟩) hP hS h1 h2 h3 (by decide) (by decide)) (fun hok2 H locs hP hD hS => ?_)
  obtain ⟨t, ht, et⟩ := inR_n (by omega) hok2
  subst et
  rw [nI_clamp (by omega)]
  refine lv_astore_n (lv' := [(3, .ref (A (9 + t))), (0, .ref x), (1, .int (nI t)), (2, .int v)]) hx hb dX3_about_5 rfl hl (by decide) rfl (fun ls hl => ?_)
  refine lv_iload_n hx hb dX3_about_6 rfl (lv_at hl 3 rfl) ?_
  refine lv_if_lt (tgt := 15) hx hb dX3_about_7 (by decide) (fun c_7 => ?_) (fun c_7 => ?_)
  ·
    exact e1_throw hx hb hl0 hown hts (by decide +kernel) tkX3_about_19 tiX3_about_19 tgX3_about_19 vg_1 vo_1 (by decide) hST (List.mem_of_getElem? (i := 13) rfl) hS (hl.1.trans hml.symm) dX3_about_15 dX3_about_18 dX3_about_19 dX3_about_21 dX3_about_24 htab (Nat.le_of_ble_eq_true rfl) (Nat.le_of_ble_eq_true rfl) (Nat.le_of_ble_eq_true rfl) (Nat.le_of_ble_eq_true rfl) hlocks (Or.inl ⟨by rw [kTold, if_pos hok2, if_neg (fun h => absurd h.1 (Int32.not_le.mpr c_7))], rfl⟩) hP (Nat.le_of_ble_eq_true rfl) (Nat.le_of_ble_eq_true rfl)
  ·
    refine lv_iload_n hx hb dX3_about_10 rfl (lv_at hl 3 rfl) ?_
    refine lv_iconst (v := 3) hx hb dX3_about_11 (by decide) ?_
    refine lv_icmp_lt (tgt := 25) hx hb dX3_about_12 (by decide) (fun c_12 => ?_) (fun c_12 => ?_)
    ·
      obtain ⟨w, hw, ew⟩ := cIn_n 2 (by decide) (Int32.not_lt.mp c_7) (le2 c_12)
      subst ew
      refine lv_aload_n hx hb dX3_about_25 rfl (lv_at hl 0 rfl) ?_
      refine lv_iload_n hx hb dX3_about_26 rfl (lv_at hl 3 rfl) ?_
      refine c0_V (As := [.int (nI w)]) (rest := []) ⟨hx, hb, hml, hown, hts⟩ (mX2_number l D cI cC cT cL (A (9 + t)) (f (19 + 3 * t)) (f (20 + 3 * t)) (f (21 + 3 * t)) w (by omega)) (cwV 1 hts gX3_about_X2_number rfl rfl rfl pX2_number ⟨Nat.le_of_ble_eq_true rfl, Nat.le_of_ble_eq_true rfl⟩) hK hP hD hS hA hST (Jn_ytub0 t (by omega)) 0 rfl rfl rfl rfl hl.1 rfl (Nat.le_of_ble_eq_true rfl) dX3_about_27 ⟨Nat.le_of_ble_eq_true rfl, Nat.le_of_ble_eq_true rfl⟩ rfl (fun H locs hP hD hS => ?_)
      exact e1_i hx hb hr hlocks (by rw [kTold, if_pos hok2, if_pos ⟨Int32.not_lt.mp c_7, le2 c_12⟩]) hP hS dX3_about_30 (by decide) (by decide) (by first | (rw [nI_clamp (by omega), nI_clamp (by omega), nI_clamp (by omega)] <;> rfl) | (rw [nI_clamp (by omega), nI_clamp (by omega)] <;> rfl) | (rw [nI_clamp (by omega)] <;> rfl) | rfl)
    ·
      exact e1_throw hx hb hl0 hown hts (by decide +kernel) tkX3_about_19 tiX3_about_19 tgX3_about_19 vg_1 vo_1 (by decide) hST (List.mem_of_getElem? (i := 13) rfl) hS (hl.1.trans hml.symm) dX3_about_15 dX3_about_18 dX3_about_19 dX3_about_21 dX3_about_24 htab (Nat.le_of_ble_eq_true rfl) (Nat.le_of_ble_eq_true rfl) (Nat.le_of_ble_eq_true rfl) (Nat.le_of_ble_eq_true rfl) hlocks (Or.inl ⟨by rw [kTold, if_pos hok2, if_neg (fun h => c_12 (lt3 h.2))], rfl⟩) hP (Nat.le_of_ble_eq_true rfl) (Nat.le_of_ble_eq_true rfl)

set_option maxHeartbeats 4000000 in
set_option maxRecDepth 100000 in
theorem mX3_count (l : Launch) (D : va_G) (cI cC cT cL : ClassId) (hl0 : l.stackTraces = false) (x b0 : Nat) (A : Nat → Nat) (nc nt : Nat) (f g : Nat → Int32) (u : Int32) (hnt : nt ≤ 6) (h : Nat) (hh : h < 2 ^ 29) (h0 : f 0 = nI h) : M1 l yX3_count wsX3_count ({ frames := 6, cells := 1, slots := 6, locals := 90 } : Room) D (TY cI cC cT cL) [.ref x, .int u] (YW cI cC cT x A b0 nc nt f g) (kCount u = 0) (some (.int (cntF nt f g u.toNatClampNeg))) (YW cI cC cT x A b0 nc nt f g) (XE (kCount u) IOOBE IAE ISE) 1 6 := by
  refine M1_of (cc := cX3_count) (maxL := 2) (ret := (some .int)) (by decide +kernel) rfl (Nat.le_of_ble_eq_true rfl) ?_
  intro p e s m args below meth c A0 B htab ls hl
  obtain ⟨hx, hb, hml, hr, hown, hts, hlocks, hK, hP, hD, hA, hST, hnm⟩ := B
  have hown : s.vm.findClass RX3 = some m.cls := hown
  have hS : va_S A0 s.heap s.heap [] := va_S.rf
  have hl : lv_has ls 2 [(0, .ref x), (1, .int u)] := hl
  refine lv_iload_n hx hb dX3_count_0 rfl (lv_at hl 1 rfl) ?_
  refine lv_if_lt (tgt := 10) hx hb dX3_count_1 (by decide) (fun c_1 => ?_) (fun c_1 => ?_)
  ·
    exact e1_throw hx hb hl0 hown hts (by decide +kernel) tkX3_count_19 tiX3_count_19 tgX3_count_19 vg_1 vo_1 (by decide) hST (List.mem_of_getElem? (i := 14) rfl) hS (hl.1.trans hml.symm) dX3_count_10 dX3_count_13 dX3_count_14 dX3_count_16 dX3_count_19 htab (Nat.le_of_ble_eq_true rfl) (Nat.le_of_ble_eq_true rfl) (Nat.le_of_ble_eq_true rfl) (Nat.le_of_ble_eq_true rfl) hlocks (Or.inl ⟨by rw [kCount, if_neg (fun h => absurd h.1 (Int32.not_le.mpr c_1))], rfl⟩) hP (Nat.le_of_ble_eq_true rfl) (Nat.le_of_ble_eq_true rfl)
  ·
    refine lv_iload_n hx hb dX3_count_4 rfl (lv_at hl 1 rfl) ?_
    refine lv_bipush (v := 10) hx hb dX3_count_5 (by decide) ?_
    refine lv_icmp_lt (tgt := 20) hx hb dX3_count_7 (by decide) (fun c_7 => ?_) (fun c_7 => ?_)
    ·
      obtain ⟨w, hw, ew⟩ := cIn_n 9 (by decide) (Int32.not_lt.mp c_1) (le9 c_7)
      subst ew
      refine lv_aload_n hx hb dX3_count_20 rfl (lv_at hl 0 rfl) ?_
      refine w_get hx hb hts iX3_count_X3 hown hK hP 0 rfl rfl 0 (by decide) fX3_count_10 rfl rfl dX3_count_21 ?_
      refine lv_iload_n hx hb dX3_count_24 rfl (lv_at hl 1 rfl) ?_
      refine c0_V (As := [.int (nI w)]) (rest := []) ⟨hx, hb, hml, hown, hts⟩ (mX0_number l D cI cC cT cL A nc nt f g hnt h (by omega) h0 w (by omega)) (cwV 1 hts gX3_count_X0_number rfl rfl rfl pX0_number ⟨Nat.le_of_ble_eq_true rfl, Nat.le_of_ble_eq_true rfl⟩) hK hP hD hS hA hST (Jn_yw) 0 rfl rfl rfl rfl hl.1 rfl (Nat.le_of_ble_eq_true rfl) dX3_count_25 ⟨Nat.le_of_ble_eq_true rfl, Nat.le_of_ble_eq_true rfl⟩ rfl (fun H locs hP hD hS => ?_)
      exact e1_i hx hb hr hlocks (by rw [kCount, if_pos ⟨Int32.not_lt.mp c_1, le9 c_7⟩]) hP hS dX3_count_28 (by decide) (by decide) (by first | (rw [nI_clamp (by omega), nI_clamp (by omega), nI_clamp (by omega)] <;> rfl) | (rw [nI_clamp (by omega), nI_clamp (by omega)] <;> rfl) | (rw [nI_clamp (by omega)] <;> rfl) | rfl)
    ·
      exact e1_throw hx hb hl0 hown hts (by decide +kernel) tkX3_count_19 tiX3_count_19 tgX3_count_19 vg_1 vo_1 (by decide) hST (List.mem_of_getElem? (i := 14) rfl) hS (hl.1.trans hml.symm) dX3_count_10 dX3_count_13 dX3_count_14 dX3_count_16 dX3_count_19 htab (Nat.le_of_ble_eq_true rfl) (Nat.le_of_ble_eq_true rfl) (Nat.le_of_ble_eq_true rfl) (Nat.le_of_ble_eq_true rfl) hlocks (Or.inl ⟨by rw [kCount, if_neg (fun h => c_7 (lt10 h.2))], rfl⟩) hP (Nat.le_of_ble_eq_true rfl) (Nat.le_of_ble_eq_true rfl)

set_option maxHeartbeats 4000000 in
set_option maxRecDepth 100000 in
theorem mX3_next (l : Launch) (D : va_G) (cI cC cT cL : ClassId) (x b0 : Nat) (A : Nat → Nat) (nc nt : Nat) (f g : Nat → Int32) (hnt : nt ≤ 6) (hI : Inv f) : M0 l yX3_next wsX3_next ({ frames := 1, cells := 0, slots := 0, locals := 23 } : Room) D (TY cI cC cT cL) [.ref x] (YW cI cC cT x A b0 nc nt f g) (some (.int (nxt f nt))) (YW cI cC cT x A b0 nc nt f g) 0 0 := by
  refine M0_of (cc := cX3_next) (maxL := 1) (ret := (some .int)) (by decide +kernel) rfl (Nat.le_of_ble_eq_true rfl) ?_
  intro p e s m args below meth c A0 B ls hl
  obtain ⟨hx, hb, hml, hr, hown, hts, hlocks, hK, hP, hD, hA, hST, hnm⟩ := B
  have hown : s.vm.findClass RX3 = some m.cls := hown
  have hS : va_S A0 s.heap s.heap [] := va_S.rf
  have hl : lv_has ls 1 [(0, .ref x)] := hl
  refine lv_aload_n hx hb dX3_next_0 rfl (lv_at hl 0 rfl) ?_
  refine w_get hx hb hts iX3_next_X3 hown hK hP 0 rfl rfl 0 (by decide) fX3_next_10 rfl rfl dX3_next_1 ?_
  refine c0_V (As := []) (rest := []) ⟨hx, hb, hml, hown, hts⟩ (mX0_sellingTub l D cI cC cT cL A nc nt f g hnt (soft_ok hI hnt)) (cwV 0 hts gX3_next_X0_sellingTub rfl rfl rfl pX0_sellingTub ⟨Nat.le_of_ble_eq_true rfl, Nat.le_of_ble_eq_true rfl⟩) hK hP hD hS hA hST (Jn_yw) 0 rfl rfl rfl rfl hl.1 rfl (Nat.le_of_ble_eq_true rfl) dX3_next_4 ⟨Nat.le_of_ble_eq_true rfl, Nat.le_of_ble_eq_true rfl⟩ rfl (fun H locs hP hD hS => ?_)
  exact e0_i hx hb hr hlocks hP hS dX3_next_7 (by decide) (by decide) (rfl)

set_option maxHeartbeats 4000000 in
set_option maxRecDepth 100000 in
theorem mX3_lasts (l : Launch) (D : va_G) (cI cC cT cL : ClassId) (x b0 : Nat) (A : Nat → Nat) (nc nt : Nat) (f g : Nat → Int32) (h : Nat) (hh : h < 2 ^ 29) (h0 : f 0 = nI h) : M0 l yX3_lasts wsX3_lasts ({ frames := 3, cells := 0, slots := 0, locals := 65 } : Room) D (TY cI cC cT cL) [.ref x] (YW cI cC cT x A b0 nc nt f g) (some (.int (fd0 (iceN f g h) 1000 0))) (YW cI cC cT x A b0 nc nt f g) 0 0 := by
  refine M0_of (cc := cX3_lasts) (maxL := 1) (ret := (some .int)) (by decide +kernel) rfl (Nat.le_of_ble_eq_true rfl) ?_
  intro p e s m args below meth c A0 B ls hl
  obtain ⟨hx, hb, hml, hr, hown, hts, hlocks, hK, hP, hD, hA, hST, hnm⟩ := B
  have hown : s.vm.findClass RX3 = some m.cls := hown
  have hS : va_S A0 s.heap s.heap [] := va_S.rf
  have hl : lv_has ls 1 [(0, .ref x)] := hl
  refine lv_aload_n hx hb dX3_lasts_0 rfl (lv_at hl 0 rfl) ?_
  refine w_get hx hb hts iX3_lasts_X3 hown hK hP 0 rfl rfl 0 (by decide) fX3_lasts_10 rfl rfl dX3_lasts_1 ?_
  refine c0_V (As := []) (rest := []) ⟨hx, hb, hml, hown, hts⟩ (mX0_hoursUntilNoIce l D cI cC cT cL A nc nt f g h (by omega) h0) (cwV 0 hts gX3_lasts_X0_hoursUntilNoIce rfl rfl rfl pX0_hoursUntilNoIce ⟨Nat.le_of_ble_eq_true rfl, Nat.le_of_ble_eq_true rfl⟩) hK hP hD hS hA hST (Jn_yw) 0 rfl rfl rfl rfl hl.1 rfl (Nat.le_of_ble_eq_true rfl) dX3_lasts_4 ⟨Nat.le_of_ble_eq_true rfl, Nat.le_of_ble_eq_true rfl⟩ rfl (fun H locs hP hD hS => ?_)
  exact e0_i hx hb hr hlocks hP hS dX3_lasts_7 (by decide) (by decide) (rfl)

set_option maxHeartbeats 4000000 in
set_option maxRecDepth 100000 in
theorem mX3_pass (l : Launch) (D : va_G) (cI cC cT cL : ClassId) (hl0 : l.stackTraces = false) (x b0 : Nat) (A : Nat → Nat) (nc nt : Nat) (f g : Nat → Int32) (u : Int32) (hnc : nc ≤ 4) (hnt : nt ≤ 6) (hI : Inv f) (hg : Gd g) (h : Nat) (hh : h < 2 ^ 29) (h0 : f 0 = nI h) : M1 l yX3_pass wsX3_pass ({ frames := 7, cells := 1, slots := 6, locals := 112 } : Room) D (TY cI cC cT cL) [.ref x, .int u] (YW cI cC cT x A b0 nc nt f g) (kPass u = 0) (some (.int (rep (hourF nc nt g) u.toNatClampNeg f 5 - f 5))) (YW cI cC cT x A b0 nc nt (rep (hourF nc nt g) u.toNatClampNeg f) g) (XE (kPass u) IAE IOOBE ISE) 1 6 := by
  refine M1_of (cc := cX3_pass) (maxL := 3) (ret := (some .int)) (by decide +kernel) rfl (Nat.le_of_ble_eq_true rfl) ?_
  intro p e s m args below meth c A0 B htab ls hl
  obtain ⟨hx, hb, hml, hr, hown, hts, hlocks, hK, hP, hD, hA, hST, hnm⟩ := B
  have hown : s.vm.findClass RX3 = some m.cls := hown
  have hS : va_S A0 s.heap s.heap [] := va_S.rf
  have hl : lv_has ls 3 [(0, .ref x), (1, .int u)] := hl
  refine lv_iload_n hx hb dX3_pass_0 rfl (lv_at hl 1 rfl) ?_
  refine c1_S (As := [.int u]) (rest := []) ⟨hx, hb, hml, hown, hts⟩ (mX3_checkHours l D cI cC cT cL hl0 u) (va_cwS 1 hts gX3_pass_X3_checkHours rfl rfl rfl pX3_checkHours ⟨Nat.le_of_ble_eq_true rfl, Nat.le_of_ble_eq_true rfl⟩) hK hP hD hS hA hST (Jn_nil _) (Jn_nil _) rfl hl.1 rfl (Nat.le_of_ble_eq_true rfl) dX3_pass_1 ⟨Nat.le_of_ble_eq_true rfl, Nat.le_of_ble_eq_true rfl⟩ rfl (fun E ce q9 H locs hE hP hS h1 h2 h3 => e1_out htab hlocks (Or.inl ⟨by rw [kPass, if_neg hE.1], hE.2⟩) hP hS h1 h2 h3 (by decide) (by decide)) (fun hok1 H locs hP hD hS => ?_)
  obtain ⟨r, hr9, hr1, er⟩ := cIn_1 hok1
  subst er
  refine lv_aload_n hx hb dX3_pass_4 rfl (lv_at hl 0 rfl) ?_
  refine w_get hx hb hts iX3_pass_X3 hown hK hP 0 rfl rfl 0 (by decide) fX3_pass_10 rfl rfl dX3_pass_5 ?_
  refine w_getN hx hb hts iX3_pass_X0 hown hK hST hP 1 rfl rfl 7 (by decide) 16 rfl rfl rfl dX3_pass_8 ?_
  refine lv_istore_n (lv' := [(2, .int (f 5)), (0, .ref x), (1, .int (nI r))]) hx hb dX3_pass_11 rfl hl (by decide) rfl (fun ls hl => ?_)
  refine lv_aload_n hx hb dX3_pass_12 rfl (lv_at hl 1 rfl) ?_
  refine w_get hx hb hts iX3_pass_X3 hown hK hP 0 rfl rfl 0 (by decide) fX3_pass_10 rfl rfl dX3_pass_13 ?_
  refine lv_iload_n hx hb dX3_pass_16 rfl (lv_at hl 2 rfl) ?_
  refine c0_V (As := [.int (nI r)]) (rest := []) ⟨hx, hb, hml, hown, hts⟩ (mX0_runHours l D cI cC cT cL A nc nt f g hnc hnt hI hg h h0 r (by omega)) (cwV 1 hts gX3_pass_X0_runHours rfl rfl rfl pX0_runHours ⟨Nat.le_of_ble_eq_true rfl, Nat.le_of_ble_eq_true rfl⟩) hK hP hD hS hA hST (Jn_yw) 0 rfl rfl rfl rfl hl.1 rfl (Nat.le_of_ble_eq_true rfl) dX3_pass_17 ⟨Nat.le_of_ble_eq_true rfl, Nat.le_of_ble_eq_true rfl⟩ rfl (fun H locs hP hD hS => ?_)
  refine lv_aload_n hx hb dX3_pass_20 rfl (lv_at hl 1 rfl) ?_
  refine w_get hx hb hts iX3_pass_X3 hown hK hP 0 rfl rfl 0 (by decide) fX3_pass_10 rfl rfl dX3_pass_21 ?_
  refine w_getN hx hb hts iX3_pass_X0 hown hK hST hP 1 rfl rfl 7 (by decide) 16 rfl rfl rfl dX3_pass_24 ?_
  refine lv_iload_n hx hb dX3_pass_27 rfl (lv_at hl 0 rfl) ?_
  refine lv_isub hx hb dX3_pass_28 ?_
  exact e1_i hx hb hr hlocks (by rw [kPass, if_pos hok1]) (P_eq (by first | (rw [nI_clamp (by omega), nI_clamp (by omega), nI_clamp (by omega)] <;> rfl) | (rw [nI_clamp (by omega), nI_clamp (by omega)] <;> rfl) | (rw [nI_clamp (by omega)] <;> rfl) | rfl) hP) hS dX3_pass_29 (by decide) (by decide) (by first | (rw [nI_clamp (by omega), nI_clamp (by omega), nI_clamp (by omega)] <;> rfl) | (rw [nI_clamp (by omega), nI_clamp (by omega)] <;> rfl) | (rw [nI_clamp (by omega)] <;> rfl) | rfl)

set_option maxHeartbeats 4000000 in
set_option maxRecDepth 100000 in
theorem mX3_done (l : Launch) (D : va_G) (cI cC cT cL : ClassId) (hl0 : l.stackTraces = false) (x b0 : Nat) (A : Nat → Nat) (nc nt : Nat) (f g : Nat → Int32) (u : Int32) (hnc : nc ≤ 4) (h : Nat) (hh : h < 2 ^ 29) (h0 : f 0 = nI h) : M1 l yX3_done wsX3_done ({ frames := 7, cells := 1, slots := 6, locals := 111 } : Room) D (TY cI cC cT cL) [.ref x, .int u] (YW cI cC cT x A b0 nc nt f g) (kDone nc u = 0) (some (.int (doneC f g h u.toNatClampNeg))) (YW cI cC cT x A b0 nc nt f g) (XE (kDone nc u) IOOBE IAE ISE) 1 6 := by
  refine M1_of (cc := cX3_done) (maxL := 2) (ret := (some .int)) (by decide +kernel) rfl (Nat.le_of_ble_eq_true rfl) ?_
  intro p e s m args below meth c A0 B htab ls hl
  obtain ⟨hx, hb, hml, hr, hown, hts, hlocks, hK, hP, hD, hA, hST, hnm⟩ := B
  have hown : s.vm.findClass RX3 = some m.cls := hown
  have hS : va_S A0 s.heap s.heap [] := va_S.rf
  have hl : lv_has ls 2 [(0, .ref x), (1, .int u)] := hl
  refine lv_aload_n hx hb dX3_done_0 rfl (lv_at hl 0 rfl) ?_
  refine w_get hx hb hts iX3_done_X3 hown hK hP 0 rfl rfl 0 (by decide) fX3_done_10 rfl rfl dX3_done_1 ?_
  refine lv_aload_n hx hb dX3_done_4 rfl (lv_at hl 0 rfl) ?_
  refine lv_iload_n hx hb dX3_done_5 rfl (lv_at hl 1 rfl) ?_
  refine c1_V (As := [.int u]) (rest := [.ref (A 0)]) ⟨hx, hb, hml, hown, hts⟩ (mX3_existingChurn l D cI cC cT cL hl0 x b0 A nc nt f g u hnc) (cwV 1 hts gX3_done_X3_existingChurn rfl rfl rfl pX3_existingChurn ⟨Nat.le_of_ble_eq_true rfl, Nat.le_of_ble_eq_true rfl⟩) hK hP hD hS hA hST (Jn_all _ _ (rfl)) (Jn_all _ _ rfl) 0 rfl rfl rfl rfl hl.1 rfl (Nat.le_of_ble_eq_true rfl) dX3_done_6 ⟨Nat.le_of_ble_eq_true rfl, Nat.le_of_ble_eq_true rfl⟩ rfl (fun E ce q9 H locs hE hP hS h1 h2 h3 => e1_out htab hlocks (Or.inl ⟨by rw [kDone, if_neg hE.1], hE.2⟩) hP hS h1 h2 h3 (by decide) (by decide)) (fun hok6 H locs hP hD hS => ?_)
  obtain ⟨i, hi, ei⟩ := inR_n (by omega) hok6
  subst ei
  rw [nI_clamp (by omega)]
  refine c0_V (As := [.ref (A (5 + i))]) (rest := []) ⟨hx, hb, hml, hown, hts⟩ (mX0_hoursUntilFirm l D cI cC cT cL A nc nt f g i (by omega) h (by omega) h0) (cwV 1 hts gX3_done_X0_hoursUntilFirm rfl rfl rfl pX0_hoursUntilFirm ⟨Nat.le_of_ble_eq_true rfl, Nat.le_of_ble_eq_true rfl⟩) hK hP hD hS hA hST (Jn_yw) 0 rfl rfl rfl rfl hl.1 rfl (Nat.le_of_ble_eq_true rfl) dX3_done_9 ⟨Nat.le_of_ble_eq_true rfl, Nat.le_of_ble_eq_true rfl⟩ rfl (fun H locs hP hD hS => ?_)
  exact e1_i hx hb hr hlocks (by rw [kDone, if_pos hok6]) hP hS dX3_done_12 (by decide) (by decide) (by first | (rw [nI_clamp (by omega), nI_clamp (by omega), nI_clamp (by omega)] <;> rfl) | (rw [nI_clamp (by omega), nI_clamp (by omega)] <;> rfl) | (rw [nI_clamp (by omega)] <;> rfl) | rfl)

def dgf (xs : Nat → Int32) (d : Int64) : Nat → Int64
  | 0 => d
  | n + 1 => dgf xs d n * 31 + (xs n).toInt64
def digF (nc nt : Nat) (f g : Nat → Int32) : Int64 := dgf (fun k => f (19 + k)) (dgf (fun k => f (7 + k)) (dgf g (dgf (cntF nt f g) 1103 10) 7) (3 * nc)) (3 * nt)
theorem pick_c {f : Nat → Int32} {i w : Nat} (hw : w < 3) : pick3 w (f (7 + 3 * i)) (f (8 + 3 * i)) (f (9 + 3 * i)) = f (7 + (3 * i + w)) := by
  match w, hw with
  | 0, _ => rfl
  | 1, _ => rw [show 7 + (3 * i + 1) = 8 + 3 * i by omega]; rfl
  | 2, _ => rw [show 7 + (3 * i + 2) = 9 + 3 * i by omega]; rfl
theorem pick_t {f : Nat → Int32} {i w : Nat} (hw : w < 3) : pick3 w (f (19 + 3 * i)) (f (20 + 3 * i)) (f (21 + 3 * i)) = f (19 + (3 * i + w)) := by
  match w, hw with
  | 0, _ => rfl
  | 1, _ => rw [show 19 + (3 * i + 1) = 20 + 3 * i by omega]; rfl
  | 2, _ => rw [show 19 + (3 * i + 2) = 21 + 3 * i by omega]; rfl

set_option maxHeartbeats 4000000 in
set_option maxRecDepth 100000 in
theorem mX3_digest (l : Launch) (D : va_G) (cI cC cT cL : ClassId) (x b0 : Nat) (A : Nat → Nat) (nc nt : Nat) (f g : Nat → Int32) (hnc : nc ≤ 4) (hnt : nt ≤ 6) (h : Nat) (hh : h < 2 ^ 29) (h0 : f 0 = nI h) : M0 l yX3_digest wsX3_digest ({ frames := 3, cells := 0, slots := 0, locals := 65 } : Room) D (TY cI cC cT cL) [.ref x] (YW cI cC cT x A b0 nc nt f g) (some (.long (digF nc nt f g))) (YW cI cC cT x A b0 nc nt f g) 0 0 := by
  refine M0_of (cc := cX3_digest) (maxL := 5) (ret := (some .long)) (by decide +kernel) rfl (Nat.le_of_ble_eq_true rfl) ?_
  intro p e s m args below meth c A0 B ls hl
  obtain ⟨hx, hb, hml, hr, hown, hts, hlocks, hK, hP, hD, hA, hST, hnm⟩ := B
  have hown : s.vm.findClass RX3 = some m.cls := hown
  have hS : va_S A0 s.heap s.heap [] := va_S.rf
  have hl : lv_has ls 5 [(0, .ref x)] := hl
  refine lv_ldc2 hx hb hown (hts _ kX3_digest_162) dX3_digest_0 ?_
  refine lv_lstore_n (lv' := [(1, .long 1103), (0, .ref x)]) hx hb dX3_digest_3 rfl hl (by decide) rfl (fun ls hl => ?_)
  refine lv_iconst (v := 0) hx hb dX3_digest_4 (by decide) ?_
  refine lv_istore_n (lv' := [(3, .int 0), (1, .long 1103), (0, .ref x)]) hx hb dX3_digest_5 rfl hl (by decide) rfl (fun ls hl => ?_)
  have lp0 : ∀ (n j : Nat), j + n = 10 → ∀ (H : Heap) (locs : List Loc), va_P D vwCl (YW cI cC cT x A b0 nc nt f g) H → va_D A0 (YW cI cC cT x A b0 nc nt f g) → va_S A0 s.heap H locs → ∀ ls, lv_has ls 5 [(3, .int (nI j)), (1, .long (dgf (cntF nt f g) 1103 j)), (0, .ref x)] → W p l e ({ frames := 3, cells := 0, slots := 0, locals := 65 } : Room) s m args below meth c H locs 0 0 (Q0 below D (some (.long (digF nc nt f g))) (YW cI cC cT x A b0 nc nt f g) A0 args s 0 0) (F0 m 6 ls []) := by
    intro n
    induction n with
    | zero =>
      intro j hj   H locs hP hD hS ls hl
      have hje : 10 = j := by omega
      subst hje
      refine lv_iload_n hx hb dX3_digest_6 rfl (lv_at hl 0 rfl) ?_
      refine lv_bipush (v := 10) hx hb dX3_digest_7 (by decide) ?_
      refine lv_icmp_ge (tgt := 32) hx hb dX3_digest_9 (by decide) (fun c_9 => ?_) (fun c_9 => ?_)
      rotate_left
      · exact absurd (by decide) c_9
      refine lv_iconst (v := 0) hx hb dX3_digest_32 (by decide) ?_
      refine lv_istore_n (lv' := [(3, .int 0), (1, .long (dgf (cntF nt f g) 1103 10)), (0, .ref x)]) hx hb dX3_digest_33 rfl hl (by decide) rfl (fun ls hl => ?_)
      have lp1 : ∀ (n j : Nat), j + n = 7 → ∀ (H : Heap) (locs : List Loc), va_P D vwCl (YW cI cC cT x A b0 nc nt f g) H → va_D A0 (YW cI cC cT x A b0 nc nt f g) → va_S A0 s.heap H locs → ∀ ls, lv_has ls 5 [(3, .int (nI j)), (1, .long (dgf g (dgf (cntF nt f g) 1103 10) j)), (0, .ref x)] → W p l e ({ frames := 3, cells := 0, slots := 0, locals := 65 } : Room) s m args below meth c H locs 0 0 (Q0 below D (some (.long (digF nc nt f g))) (YW cI cC cT x A b0 nc nt f g) A0 args s 0 0) (F0 m 34 ls []) := by
        intro n
        induction n with
        | zero =>
          intro j hj   H locs hP hD hS ls hl
          have hje : 7 = j := by omega
          subst hje
          refine lv_iload_n hx hb dX3_digest_34 rfl (lv_at hl 0 rfl) ?_
          refine lv_bipush (v := 7) hx hb dX3_digest_35 (by decide) ?_
          refine lv_icmp_ge (tgt := 61) hx hb dX3_digest_37 (by decide) (fun c_37 => ?_) (fun c_37 => ?_)
          rotate_left
          · exact absurd (by decide) c_37
          refine lv_iconst (v := 0) hx hb dX3_digest_61 (by decide) ?_
          refine lv_istore_n (lv' := [(3, .int 0), (1, .long (dgf g (dgf (cntF nt f g) 1103 10) 7)), (0, .ref x)]) hx hb dX3_digest_62 rfl hl (by decide) rfl (fun ls hl => ?_)
          have lp2 : ∀ (n j : Nat), j + n = nc → ∀ (H : Heap) (locs : List Loc), va_P D vwCl (YW cI cC cT x A b0 nc nt f g) H → va_D A0 (YW cI cC cT x A b0 nc nt f g) → va_S A0 s.heap H locs → ∀ ls, lv_has ls 5 [(3, .int (nI j)), (1, .long (dgf (fun k => f (7 + k)) (dgf g (dgf (cntF nt f g) 1103 10) 7) (3 * j))), (0, .ref x)] → W p l e ({ frames := 3, cells := 0, slots := 0, locals := 65 } : Room) s m args below meth c H locs 0 0 (Q0 below D (some (.long (digF nc nt f g))) (YW cI cC cT x A b0 nc nt f g) A0 args s 0 0) (F0 m 63 ls []) := by
            intro n
            induction n with
            | zero =>
              intro j hj   H locs hP hD hS ls hl
              have hje : nc = j := by omega
              subst hje
              refine lv_iload_n hx hb dX3_digest_63 rfl (lv_at hl 0 rfl) ?_
              refine lv_aload_n hx hb dX3_digest_64 rfl (lv_at hl 2 rfl) ?_
              refine w_get hx hb hts iX3_digest_X3 hown hK hP 0 rfl rfl 0 (by decide) fX3_digest_10 rfl rfl dX3_digest_65 ?_
              refine w_getN hx hb hts iX3_digest_X0 hown hK hST hP 1 rfl rfl 4 (by decide) 14 rfl rfl rfl dX3_digest_68 ?_
              refine lv_icmp_ge (tgt := 115) hx hb dX3_digest_71 (by decide) (fun c_71 => ?_) (fun c_71 => ?_)
              rotate_left
              · exact absurd (Int32.le_refl _) c_71
              refine lv_iconst (v := 0) hx hb dX3_digest_115 (by decide) ?_
              refine lv_istore_n (lv' := [(3, .int 0), (1, .long (dgf (fun k => f (7 + k)) (dgf g (dgf (cntF nt f g) 1103 10) 7) (3 * nc))), (0, .ref x)]) hx hb dX3_digest_116 rfl hl (by decide) rfl (fun ls hl => ?_)
              have lp3 : ∀ (n j : Nat), j + n = nt → ∀ (H : Heap) (locs : List Loc), va_P D vwCl (YW cI cC cT x A b0 nc nt f g) H → va_D A0 (YW cI cC cT x A b0 nc nt f g) → va_S A0 s.heap H locs → ∀ ls, lv_has ls 5 [(3, .int (nI j)), (1, .long (dgf (fun k => f (19 + k)) (dgf (fun k => f (7 + k)) (dgf g (dgf (cntF nt f g) 1103 10) 7) (3 * nc)) (3 * j))), (0, .ref x)] → W p l e ({ frames := 3, cells := 0, slots := 0, locals := 65 } : Room) s m args below meth c H locs 0 0 (Q0 below D (some (.long (digF nc nt f g))) (YW cI cC cT x A b0 nc nt f g) A0 args s 0 0) (F0 m 117 ls []) := by
                intro n
                induction n with
                | zero =>
                  intro j hj   H locs hP hD hS ls hl
                  have hje : nt = j := by omega
                  subst hje
                  refine lv_iload_n hx hb dX3_digest_117 rfl (lv_at hl 0 rfl) ?_
                  refine lv_aload_n hx hb dX3_digest_118 rfl (lv_at hl 2 rfl) ?_
                  refine w_get hx hb hts iX3_digest_X3 hown hK hP 0 rfl rfl 0 (by decide) fX3_digest_10 rfl rfl dX3_digest_119 ?_
                  refine w_getN hx hb hts iX3_digest_X0 hown hK hST hP 1 rfl rfl 5 (by decide) 15 rfl rfl rfl dX3_digest_122 ?_
                  refine lv_icmp_ge (tgt := 169) hx hb dX3_digest_125 (by decide) (fun c_125 => ?_) (fun c_125 => ?_)
                  rotate_left
                  · exact absurd (Int32.le_refl _) c_125
                  refine lv_lload_n hx hb dX3_digest_169 rfl (lv_at hl 1 rfl) ?_
                  exact e0_l hx hb hr hlocks hP hS dX3_digest_170 (by decide) (by decide) (rfl)
                | succ n ih =>
                  intro j hj   H locs hP hD hS ls hl
                  refine lv_iload_n hx hb dX3_digest_117 rfl (lv_at hl 0 rfl) ?_
                  refine lv_aload_n hx hb dX3_digest_118 rfl (lv_at hl 2 rfl) ?_
                  refine w_get hx hb hts iX3_digest_X3 hown hK hP 0 rfl rfl 0 (by decide) fX3_digest_10 rfl rfl dX3_digest_119 ?_
                  refine w_getN hx hb hts iX3_digest_X0 hown hK hST hP 1 rfl rfl 5 (by decide) 15 rfl rfl rfl dX3_digest_122 ?_
                  refine lv_icmp_ge (tgt := 169) hx hb dX3_digest_125 (by decide) (fun c_125 => ?_) (fun c_125 => ?_)
                  · exact absurd c_125 (nI_ge (by omega) (by omega))
                  refine lv_iconst (v := 0) hx hb dX3_digest_128 (by decide) ?_
                  refine lv_istore (lv' := [(4, .int 0), (3, .int (nI j)), (1, .long (dgf (fun k => f (19 + k)) (dgf (fun k => f (7 + k)) (dgf g (dgf (cntF nt f g) 1103 10) 7) (3 * nc)) (3 * j))), (0, .ref x)]) hx hb dX3_digest_129 hl (by decide) rfl (fun ls hl => ?_)
                  have lp4 : ∀ (n k : Nat), k + n = 3 → ∀ (H : Heap) (locs : List Loc), va_P D vwCl (YW cI cC cT x A b0 nc nt f g) H → va_D A0 (YW cI cC cT x A b0 nc nt f g) → va_S A0 s.heap H locs → ∀ ls, lv_has ls 5 [(4, .int (nI k)), (3, .int (nI j)), (1, .long (dgf (fun k => f (19 + k)) (dgf (fun k => f (7 + k)) (dgf g (dgf (cntF nt f g) 1103 10) 7) (3 * nc)) (3 * j + k))), (0, .ref x)] → W p l e ({ frames := 3, cells := 0, slots := 0, locals := 65 } : Room) s m args below meth c H locs 0 0 (Q0 below D (some (.long (digF nc nt f g))) (YW cI cC cT x A b0 nc nt f g) A0 args s 0 0) (F0 m 131 ls []) := by
                    intro n
                    induction n with
                    | zero =>
                      intro k hk   H locs hP hD hS ls hl
                      have hje : 3 = k := by omega
                      subst hje
                      refine lv_iload hx hb dX3_digest_131 (lv_at hl 0 rfl) ?_
                      refine lv_iconst (v := 3) hx hb dX3_digest_133 (by decide) ?_
                      refine lv_icmp_ge (tgt := 163) hx hb dX3_digest_134 (by decide) (fun c_134 => ?_) (fun c_134 => ?_)
                      rotate_left
                      · exact absurd (by decide) c_134
                      refine lv_iinc (v := nI (j + 1)) (lv' := [(3, .int (nI (j + 1))), (4, .int (nI 3)), (1, .long (dgf (fun k => f (19 + k)) (dgf (fun k => f (7 + k)) (dgf g (dgf (cntF nt f g) 1103 10) 7) (3 * nc)) (3 * j + 3))), (0, .ref x)]) hx hb dX3_digest_163 hl (k := 1) rfl (nI_succ _).symm (by decide) rfl (fun ls hl => ?_)
                      refine lv_goto (tgt := 117) hx hb dX3_digest_166 (by decide) ?_
                      exact ih (j + 1) (by omega) _ _ hP hD hS _ (lv_sub hl [0, 2, 3] rfl)
                    | succ n ih =>
                      intro k hk   H locs hP hD hS ls hl
                      refine lv_iload hx hb dX3_digest_131 (lv_at hl 0 rfl) ?_
                      refine lv_iconst (v := 3) hx hb dX3_digest_133 (by decide) ?_
                      refine lv_icmp_ge (tgt := 163) hx hb dX3_digest_134 (by decide) (fun c_134 => ?_) (fun c_134 => ?_)
                      · exact absurd c_134 (nI_ge (b := 3) (by omega) (by decide))
                      refine lv_lload_n hx hb dX3_digest_137 rfl (lv_at hl 2 rfl) ?_
                      refine lv_aload_n hx hb dX3_digest_138 rfl (lv_at hl 3 rfl) ?_
                      refine w_get hx hb hts iX3_digest_X3 hown hK hP 0 rfl rfl 0 (by decide) fX3_digest_10 rfl rfl dX3_digest_139 ?_
                      refine w_getN hx hb hts iX3_digest_X0 hown hK hST hP 1 rfl rfl 3 (by decide) 13 rfl rfl rfl dX3_digest_142 ?_
                      refine lv_iload_n hx hb dX3_digest_145 rfl (lv_at hl 1 rfl) ?_
                      refine w_qld hx hb hK hP 5 2 rfl rfl j rfl (by omega) (by decide) (v := A (9 + j)) rfl dX3_digest_146 ?_
                      refine lv_iload hx hb dX3_digest_147 (lv_at hl 0 rfl) ?_
                      refine c0_V (As := [.int (nI k)]) (rest := [.long (dgf (fun k => f (19 + k)) (dgf (fun k => f (7 + k)) (dgf g (dgf (cntF nt f g) 1103 10) 7) (3 * nc)) (3 * j + k))]) ⟨hx, hb, hml, hown, hts⟩ (mX2_number l D cI cC cT cL (A (9 + j)) (f (19 + 3 * j)) (f (20 + 3 * j)) (f (21 + 3 * j)) k (by omega)) (cwV 1 hts gX3_digest_X2_number rfl rfl rfl pX2_number ⟨Nat.le_of_ble_eq_true rfl, Nat.le_of_ble_eq_true rfl⟩) hK hP hD hS hA hST (Jn_ytub0 j (by omega)) 0 rfl rfl rfl rfl hl.1 rfl (Nat.le_of_ble_eq_true rfl) dX3_digest_149 ⟨Nat.le_of_ble_eq_true rfl, Nat.le_of_ble_eq_true rfl⟩ rfl (fun H locs hP hD hS => ?_)
                      rw [pick_t (by omega)]
                      refine lv_i2l hx hb dX3_digest_152 rfl ?_
                      refine c0_S (As := [.long (dgf (fun k => f (19 + k)) (dgf (fun k => f (7 + k)) (dgf g (dgf (cntF nt f g) 1103 10) 7) (3 * nc)) (3 * j + k)), .long ((f (19 + (3 * j + k))).toInt64)]) (rest := []) ⟨hx, hb, hml, hown, hts⟩ (mX3_mixed l D cI cC cT cL (dgf (fun k => f (19 + k)) (dgf (fun k => f (7 + k)) (dgf g (dgf (cntF nt f g) 1103 10) 7) (3 * nc)) (3 * j + k)) ((f (19 + (3 * j + k))).toInt64)) (va_cwS 2 hts gX3_digest_X3_mixed rfl rfl rfl pX3_mixed ⟨Nat.le_of_ble_eq_true rfl, Nat.le_of_ble_eq_true rfl⟩) hK hP hD hS hA hST (Jn_nil _) rfl hl.1 rfl (Nat.le_of_ble_eq_true rfl) dX3_digest_153 ⟨Nat.le_of_ble_eq_true rfl, Nat.le_of_ble_eq_true rfl⟩ rfl (fun H locs hP hD hS => ?_)
                      refine lv_lstore_n (lv' := [(1, .long ((dgf (fun k => f (19 + k)) (dgf (fun k => f (7 + k)) (dgf g (dgf (cntF nt f g) 1103 10) 7) (3 * nc)) (3 * j + k)) * 31 + ((f (19 + (3 * j + k))).toInt64))), (4, .int (nI k)), (3, .int (nI j)), (0, .ref x)]) hx hb dX3_digest_156 rfl hl (by decide) rfl (fun ls hl => ?_)
                      refine lv_iinc (v := nI (k + 1)) (lv' := [(4, .int (nI (k + 1))), (1, .long ((dgf (fun k => f (19 + k)) (dgf (fun k => f (7 + k)) (dgf g (dgf (cntF nt f g) 1103 10) 7) (3 * nc)) (3 * j + k)) * 31 + ((f (19 + (3 * j + k))).toInt64))), (3, .int (nI j)), (0, .ref x)]) hx hb dX3_digest_157 hl (k := 1) rfl (nI_succ _).symm (by decide) rfl (fun ls hl => ?_)
                      refine lv_goto (tgt := 131) hx hb dX3_digest_160 (by decide) ?_
                      exact ih (k + 1) (by omega) _ _ hP hD hS _ (lv_sub hl [0, 2, 1, 3] rfl)
                  exact lp4 3 0 (by omega) _ _ hP hD hS _ (lv_sub hl [0, 1, 2, 3] rfl)
              exact lp3 nt 0 (by omega) _ _ hP hD hS _ (lv_sub hl [0, 1, 2] rfl)
            | succ n ih =>
              intro j hj   H locs hP hD hS ls hl
              refine lv_iload_n hx hb dX3_digest_63 rfl (lv_at hl 0 rfl) ?_
              refine lv_aload_n hx hb dX3_digest_64 rfl (lv_at hl 2 rfl) ?_
              refine w_get hx hb hts iX3_digest_X3 hown hK hP 0 rfl rfl 0 (by decide) fX3_digest_10 rfl rfl dX3_digest_65 ?_
              refine w_getN hx hb hts iX3_digest_X0 hown hK hST hP 1 rfl rfl 4 (by decide) 14 rfl rfl rfl dX3_digest_68 ?_
              refine lv_icmp_ge (tgt := 115) hx hb dX3_digest_71 (by decide) (fun c_71 => ?_) (fun c_71 => ?_)
              · exact absurd c_71 (nI_ge (by omega) (by omega))
              refine lv_iconst (v := 0) hx hb dX3_digest_74 (by decide) ?_
              refine lv_istore (lv' := [(4, .int 0), (3, .int (nI j)), (1, .long (dgf (fun k => f (7 + k)) (dgf g (dgf (cntF nt f g) 1103 10) 7) (3 * j))), (0, .ref x)]) hx hb dX3_digest_75 hl (by decide) rfl (fun ls hl => ?_)
              have lp5 : ∀ (n k : Nat), k + n = 3 → ∀ (H : Heap) (locs : List Loc), va_P D vwCl (YW cI cC cT x A b0 nc nt f g) H → va_D A0 (YW cI cC cT x A b0 nc nt f g) → va_S A0 s.heap H locs → ∀ ls, lv_has ls 5 [(4, .int (nI k)), (3, .int (nI j)), (1, .long (dgf (fun k => f (7 + k)) (dgf g (dgf (cntF nt f g) 1103 10) 7) (3 * j + k))), (0, .ref x)] → W p l e ({ frames := 3, cells := 0, slots := 0, locals := 65 } : Room) s m args below meth c H locs 0 0 (Q0 below D (some (.long (digF nc nt f g))) (YW cI cC cT x A b0 nc nt f g) A0 args s 0 0) (F0 m 77 ls []) := by
                intro n
                induction n with
                | zero =>
                  intro k hk   H locs hP hD hS ls hl
                  have hje : 3 = k := by omega
                  subst hje
                  refine lv_iload hx hb dX3_digest_77 (lv_at hl 0 rfl) ?_
                  refine lv_iconst (v := 3) hx hb dX3_digest_79 (by decide) ?_
                  refine lv_icmp_ge (tgt := 109) hx hb dX3_digest_80 (by decide) (fun c_80 => ?_) (fun c_80 => ?_)
                  rotate_left
                  · exact absurd (by decide) c_80
                  refine lv_iinc (v := nI (j + 1)) (lv' := [(3, .int (nI (j + 1))), (4, .int (nI 3)), (1, .long (dgf (fun k => f (7 + k)) (dgf g (dgf (cntF nt f g) 1103 10) 7) (3 * j + 3))), (0, .ref x)]) hx hb dX3_digest_109 hl (k := 1) rfl (nI_succ _).symm (by decide) rfl (fun ls hl => ?_)
                  refine lv_goto (tgt := 63) hx hb dX3_digest_112 (by decide) ?_
                  exact ih (j + 1) (by omega) _ _ hP hD hS _ (lv_sub hl [0, 2, 3] rfl)
                | succ n ih =>
                  intro k hk   H locs hP hD hS ls hl
                  refine lv_iload hx hb dX3_digest_77 (lv_at hl 0 rfl) ?_
                  refine lv_iconst (v := 3) hx hb dX3_digest_79 (by decide) ?_
                  refine lv_icmp_ge (tgt := 109) hx hb dX3_digest_80 (by decide) (fun c_80 => ?_) (fun c_80 => ?_)
                  · exact absurd c_80 (nI_ge (b := 3) (by omega) (by decide))
                  refine lv_lload_n hx hb dX3_digest_83 rfl (lv_at hl 2 rfl) ?_
                  refine lv_aload_n hx hb dX3_digest_84 rfl (lv_at hl 3 rfl) ?_
                  refine w_get hx hb hts iX3_digest_X3 hown hK hP 0 rfl rfl 0 (by decide) fX3_digest_10 rfl rfl dX3_digest_85 ?_
                  refine w_getN hx hb hts iX3_digest_X0 hown hK hST hP 1 rfl rfl 2 (by decide) 12 rfl rfl rfl dX3_digest_88 ?_
                  refine lv_iload_n hx hb dX3_digest_91 rfl (lv_at hl 1 rfl) ?_
                  refine w_qld hx hb hK hP 4 1 rfl rfl j rfl (by omega) (by decide) (v := A (5 + j)) rfl dX3_digest_92 ?_
                  refine lv_iload hx hb dX3_digest_93 (lv_at hl 0 rfl) ?_
                  refine c0_V (As := [.int (nI k)]) (rest := [.long (dgf (fun k => f (7 + k)) (dgf g (dgf (cntF nt f g) 1103 10) 7) (3 * j + k))]) ⟨hx, hb, hml, hown, hts⟩ (mX1_number l D cI cC cT cL (A (5 + j)) (f (7 + 3 * j)) (f (8 + 3 * j)) (f (9 + 3 * j)) k (by omega)) (cwV 1 hts gX3_digest_X1_number rfl rfl rfl pX1_number ⟨Nat.le_of_ble_eq_true rfl, Nat.le_of_ble_eq_true rfl⟩) hK hP hD hS hA hST (Jn_ychurn0 j (by omega)) 0 rfl rfl rfl rfl hl.1 rfl (Nat.le_of_ble_eq_true rfl) dX3_digest_95 ⟨Nat.le_of_ble_eq_true rfl, Nat.le_of_ble_eq_true rfl⟩ rfl (fun H locs hP hD hS => ?_)
                  rw [pick_c (by omega)]
                  refine lv_i2l hx hb dX3_digest_98 rfl ?_
                  refine c0_S (As := [.long (dgf (fun k => f (7 + k)) (dgf g (dgf (cntF nt f g) 1103 10) 7) (3 * j + k)), .long ((f (7 + (3 * j + k))).toInt64)]) (rest := []) ⟨hx, hb, hml, hown, hts⟩ (mX3_mixed l D cI cC cT cL (dgf (fun k => f (7 + k)) (dgf g (dgf (cntF nt f g) 1103 10) 7) (3 * j + k)) ((f (7 + (3 * j + k))).toInt64)) (va_cwS 2 hts gX3_digest_X3_mixed rfl rfl rfl pX3_mixed ⟨Nat.le_of_ble_eq_true rfl, Nat.le_of_ble_eq_true rfl⟩) hK hP hD hS hA hST (Jn_nil _) rfl hl.1 rfl (Nat.le_of_ble_eq_true rfl) dX3_digest_99 ⟨Nat.le_of_ble_eq_true rfl, Nat.le_of_ble_eq_true rfl⟩ rfl (fun H locs hP hD hS => ?_)
                  refine lv_lstore_n (lv' := [(1, .long ((dgf (fun k => f (7 + k)) (dgf g (dgf (cntF nt f g) 1103 10) 7) (3 * j + k)) * 31 + ((f (7 + (3 * j + k))).toInt64))), (4, .int (nI k)), (3, .int (nI j)), (0, .ref x)]) hx hb dX3_digest_102 rfl hl (by decide) rfl (fun ls hl => ?_)
                  refine lv_iinc (v := nI (k + 1)) (lv' := [(4, .int (nI (k + 1))), (1, .long ((dgf (fun k => f (7 + k)) (dgf g (dgf (cntF nt f g) 1103 10) 7) (3 * j + k)) * 31 + ((f (7 + (3 * j + k))).toInt64))), (3, .int (nI j)), (0, .ref x)]) hx hb dX3_digest_103 hl (k := 1) rfl (nI_succ _).symm (by decide) rfl (fun ls hl => ?_)
                  refine lv_goto (tgt := 77) hx hb dX3_digest_106 (by decide) ?_
                  exact ih (k + 1) (by omega) _ _ hP hD hS _ (lv_sub hl [0, 2, 1, 3] rfl)
              exact lp5 3 0 (by omega) _ _ hP hD hS _ (lv_sub hl [0, 1, 2, 3] rfl)
          exact lp2 nc 0 (by omega) _ _ hP hD hS _ (lv_sub hl [0, 1, 2] rfl)
        | succ n ih =>
          intro j hj   H locs hP hD hS ls hl
          refine lv_iload_n hx hb dX3_digest_34 rfl (lv_at hl 0 rfl) ?_
          refine lv_bipush (v := 7) hx hb dX3_digest_35 (by decide) ?_
          refine lv_icmp_ge (tgt := 61) hx hb dX3_digest_37 (by decide) (fun c_37 => ?_) (fun c_37 => ?_)
          · exact absurd c_37 (nI_ge (b := 7) (by omega) (by decide))
          refine lv_lload_n hx hb dX3_digest_40 rfl (lv_at hl 1 rfl) ?_
          refine lv_aload_n hx hb dX3_digest_41 rfl (lv_at hl 2 rfl) ?_
          refine w_get hx hb hts iX3_digest_X3 hown hK hP 0 rfl rfl 0 (by decide) fX3_digest_10 rfl rfl dX3_digest_42 ?_
          refine w_getN hx hb hts iX3_digest_X0 hown hK hST hP 1 rfl rfl 1 (by decide) 11 rfl rfl rfl dX3_digest_45 ?_
          refine lv_iload_n hx hb dX3_digest_48 rfl (lv_at hl 0 rfl) ?_
          refine w_ild hx hb hK hP 3 0 rfl rfl j rfl (by omega) (by decide) (v := g j) rfl dX3_digest_49 ?_
          refine lv_i2l hx hb dX3_digest_50 rfl ?_
          refine c0_S (As := [.long (dgf g (dgf (cntF nt f g) 1103 10) j), .long ((g j).toInt64)]) (rest := []) ⟨hx, hb, hml, hown, hts⟩ (mX3_mixed l D cI cC cT cL (dgf g (dgf (cntF nt f g) 1103 10) j) ((g j).toInt64)) (va_cwS 2 hts gX3_digest_X3_mixed rfl rfl rfl pX3_mixed ⟨Nat.le_of_ble_eq_true rfl, Nat.le_of_ble_eq_true rfl⟩) hK hP hD hS hA hST (Jn_nil _) rfl hl.1 rfl (Nat.le_of_ble_eq_true rfl) dX3_digest_51 ⟨Nat.le_of_ble_eq_true rfl, Nat.le_of_ble_eq_true rfl⟩ rfl (fun H locs hP hD hS => ?_)
          refine lv_lstore_n (lv' := [(1, .long ((dgf g (dgf (cntF nt f g) 1103 10) j) * 31 + ((g j).toInt64))), (3, .int (nI j)), (0, .ref x)]) hx hb dX3_digest_54 rfl hl (by decide) rfl (fun ls hl => ?_)
          refine lv_iinc (v := nI (j + 1)) (lv' := [(3, .int (nI (j + 1))), (1, .long ((dgf g (dgf (cntF nt f g) 1103 10) j) * 31 + ((g j).toInt64))), (0, .ref x)]) hx hb dX3_digest_55 hl (k := 1) rfl (nI_succ _).symm (by decide) rfl (fun ls hl => ?_)
          refine lv_goto (tgt := 34) hx hb dX3_digest_58 (by decide) ?_
          exact ih (j + 1) (by omega) _ _ hP hD hS _ (lv_sub hl [0, 1, 2] rfl)
      exact lp1 7 0 (by omega) _ _ hP hD hS _ (lv_sub hl [0, 1, 2] rfl)
    | succ n ih =>
      intro j hj   H locs hP hD hS ls hl
      refine lv_iload_n hx hb dX3_digest_6 rfl (lv_at hl 0 rfl) ?_
      refine lv_bipush (v := 10) hx hb dX3_digest_7 (by decide) ?_
      refine lv_icmp_ge (tgt := 32) hx hb dX3_digest_9 (by decide) (fun c_9 => ?_) (fun c_9 => ?_)
      · exact absurd c_9 (nI_ge (b := 10) (by omega) (by decide))
      refine lv_lload_n hx hb dX3_digest_12 rfl (lv_at hl 1 rfl) ?_
      refine lv_aload_n hx hb dX3_digest_13 rfl (lv_at hl 2 rfl) ?_
      refine w_get hx hb hts iX3_digest_X3 hown hK hP 0 rfl rfl 0 (by decide) fX3_digest_10 rfl rfl dX3_digest_14 ?_
      refine lv_iload_n hx hb dX3_digest_17 rfl (lv_at hl 0 rfl) ?_
      refine c0_V (As := [.int (nI j)]) (rest := [.long (dgf (cntF nt f g) 1103 j)]) ⟨hx, hb, hml, hown, hts⟩ (mX0_number l D cI cC cT cL A nc nt f g hnt h (by omega) h0 j (by omega)) (cwV 1 hts gX3_digest_X0_number rfl rfl rfl pX0_number ⟨Nat.le_of_ble_eq_true rfl, Nat.le_of_ble_eq_true rfl⟩) hK hP hD hS hA hST (Jn_yw) 0 rfl rfl rfl rfl hl.1 rfl (Nat.le_of_ble_eq_true rfl) dX3_digest_18 ⟨Nat.le_of_ble_eq_true rfl, Nat.le_of_ble_eq_true rfl⟩ rfl (fun H locs hP hD hS => ?_)
      refine lv_i2l hx hb dX3_digest_21 rfl ?_
      refine c0_S (As := [.long (dgf (cntF nt f g) 1103 j), .long ((cntF nt f g j).toInt64)]) (rest := []) ⟨hx, hb, hml, hown, hts⟩ (mX3_mixed l D cI cC cT cL (dgf (cntF nt f g) 1103 j) ((cntF nt f g j).toInt64)) (va_cwS 2 hts gX3_digest_X3_mixed rfl rfl rfl pX3_mixed ⟨Nat.le_of_ble_eq_true rfl, Nat.le_of_ble_eq_true rfl⟩) hK hP hD hS hA hST (Jn_nil _) rfl hl.1 rfl (Nat.le_of_ble_eq_true rfl) dX3_digest_22 ⟨Nat.le_of_ble_eq_true rfl, Nat.le_of_ble_eq_true rfl⟩ rfl (fun H locs hP hD hS => ?_)
      refine lv_lstore_n (lv' := [(1, .long ((dgf (cntF nt f g) 1103 j) * 31 + ((cntF nt f g j).toInt64))), (3, .int (nI j)), (0, .ref x)]) hx hb dX3_digest_25 rfl hl (by decide) rfl (fun ls hl => ?_)
      refine lv_iinc (v := nI (j + 1)) (lv' := [(3, .int (nI (j + 1))), (1, .long ((dgf (cntF nt f g) 1103 j) * 31 + ((cntF nt f g j).toInt64))), (0, .ref x)]) hx hb dX3_digest_26 hl (k := 1) rfl (nI_succ _).symm (by decide) rfl (fun ls hl => ?_)
      refine lv_goto (tgt := 6) hx hb dX3_digest_29 (by decide) ?_
      exact ih (j + 1) (by omega) _ _ hP hD hS _ (lv_sub hl [0, 1, 2] rfl)
  exact lp0 10 0 (by omega) _ _ hP hD hS _ (lv_sub hl [0, 1, 2] rfl)

def cpS (f F : Nat → Int32) (j : Nat) : Int32 := if 1 ≤ j ∧ j ≤ 4 then f j else F j
def cpC (f : Nat → Int32) (i : Nat) (F : Nat → Int32) : Nat → Int32 := set3 F (7 + 3 * i) (f (7 + 3 * i)) (f (8 + 3 * i)) (f (9 + 3 * i))
def cpT (f : Nat → Int32) (i : Nat) (F : Nat → Int32) : Nat → Int32 := set3 F (19 + 3 * i) (f (19 + 3 * i)) (f (20 + 3 * i)) (f (21 + 3 * i))
theorem cpy_stk {a b c d a' b' c' d' : Int32} : va_cpy (stk a b c d) (stk a' b' c' d') 0 0 4 = stk a b c d := by
  funext k
  unfold va_cpy
  by_cases h : 0 ≤ k ∧ k < 0 + 4
  · rw [if_pos h]; simp
  · rw [if_neg h]
    unfold stk
    rw [if_neg (by omega), if_neg (by omega), if_neg (by omega), if_neg (by omega), if_neg (by omega), if_neg (by omega), if_neg (by omega), if_neg (by omega)]
theorem tw_l {cI cC cT : ClassId} {A : Nat → Nat} {nc nt : Nat} {f g : Nat → Int32} {w : va_W} {k : Nat} (hk : k < 15) : (CW cI cC cT A nc nt f g ++ w)[k]? = (CW cI cC cT A nc nt f g)[k]? := List.getElem?_append_left hk
theorem Jn_cpC {cI cC cT : ClassId} {A B : Nat → Nat} {nc nt nc2 nt2 : Nat} {f g F G : Nat → Int32} (i : Nat) (hi : i < 4) : Jn (CW cI cC cT A nc nt f g ++ CW cI cC cT B nc2 nt2 F G) [(B (5 + i), .inr (1, [.int (F (7 + 3 * i)), .int (F (8 + 3 * i)), .int (F (9 + 3 * i))])), (A (5 + i), .inr (1, [.int (f (7 + 3 * i)), .int (f (8 + 3 * i)), .int (f (9 + 3 * i))]))] [(B (5 + i), .inr (1, [.int (f (7 + 3 * i)), .int (f (8 + 3 * i)), .int (f (9 + 3 * i))])), (A (5 + i), .inr (1, [.int (f (7 + 3 * i)), .int (f (8 + 3 * i)), .int (f (9 + 3 * i))]))] (CW cI cC cT A nc nt f g ++ CW cI cC cT B nc2 nt2 (cpC f i F) G) := by
  have h1 : (CW cI cC cT A nc nt f g ++ CW cI cC cT B nc2 nt2 F G)[5 + i + 15]? = _ := cw_gchurn (A := B) i hi
  have h2 : (CW cI cC cT A nc nt f g ++ CW cI cC cT B nc2 nt2 F G)[5 + i]? = _ := (tw_l (by omega)).trans (cw_gchurn i hi)
  have h := Jn_two (5 + i + 15) (5 + i) _ _ _ (.inr (1, [.int (f (7 + 3 * i)), .int (f (8 + 3 * i)), .int (f (9 + 3 * i))])) _ h1 h2 (by omega)
  have e : (CW cI cC cT A nc nt f g ++ CW cI cC cT B nc2 nt2 F G).set (5 + i + 15) (B (5 + i), .inr (1, [.int (f (7 + 3 * i)), .int (f (8 + 3 * i)), .int (f (9 + 3 * i))])) = CW cI cC cT A nc nt f g ++ CW cI cC cT B nc2 nt2 (cpC f i F) G := congrArg (fun w => CW cI cC cT A nc nt f g ++ w) (cw_churn (A := B) i hi _ _ _)
  rw [e] at h
  exact h
theorem Jn_cpT {cI cC cT : ClassId} {A B : Nat → Nat} {nc nt nc2 nt2 : Nat} {f g F G : Nat → Int32} (i : Nat) (hi : i < 6) : Jn (CW cI cC cT A nc nt f g ++ CW cI cC cT B nc2 nt2 F G) [(B (9 + i), .inr (2, [.int (F (19 + 3 * i)), .int (F (20 + 3 * i)), .int (F (21 + 3 * i))])), (A (9 + i), .inr (2, [.int (f (19 + 3 * i)), .int (f (20 + 3 * i)), .int (f (21 + 3 * i))]))] [(B (9 + i), .inr (2, [.int (f (19 + 3 * i)), .int (f (20 + 3 * i)), .int (f (21 + 3 * i))])), (A (9 + i), .inr (2, [.int (f (19 + 3 * i)), .int (f (20 + 3 * i)), .int (f (21 + 3 * i))]))] (CW cI cC cT A nc nt f g ++ CW cI cC cT B nc2 nt2 (cpT f i F) G) := by
  have h1 : (CW cI cC cT A nc nt f g ++ CW cI cC cT B nc2 nt2 F G)[9 + i + 15]? = _ := cw_gtub (A := B) i hi
  have h2 : (CW cI cC cT A nc nt f g ++ CW cI cC cT B nc2 nt2 F G)[9 + i]? = _ := (tw_l (by omega)).trans (cw_gtub i hi)
  have h := Jn_two (9 + i + 15) (9 + i) _ _ _ (.inr (2, [.int (f (19 + 3 * i)), .int (f (20 + 3 * i)), .int (f (21 + 3 * i))])) _ h1 h2 (by omega)
  have e : (CW cI cC cT A nc nt f g ++ CW cI cC cT B nc2 nt2 F G).set (9 + i + 15) (B (9 + i), .inr (2, [.int (f (19 + 3 * i)), .int (f (20 + 3 * i)), .int (f (21 + 3 * i))])) = CW cI cC cT A nc nt f g ++ CW cI cC cT B nc2 nt2 (cpT f i F) G := congrArg (fun w => CW cI cC cT A nc nt f g ++ w) (cw_tub (A := B) i hi _ _ _)
  rw [e] at h
  exact h

set_option maxHeartbeats 4000000 in
set_option maxRecDepth 100000 in
theorem mX0_copyFrom (l : Launch) (D : va_G) (cI cC cT cL : ClassId) (A B : Nat → Nat) (nc nt : Nat) (f g : Nat → Int32) (nc2 nt2 : Nat) (f2 g2 : Nat → Int32) : M0 l yX0_copyFrom wsX0_copyFrom ({ frames := 1, cells := 0, slots := 0, locals := 80 } : Room) D (TY cI cC cT cL) [.ref (B 0), .ref (A 0)] (CW cI cC cT A nc nt f g ++ CW cI cC cT B nc2 nt2 f2 g2) (none) (CW cI cC cT A nc nt f g ++ CW cI cC cT B nc nt f g) 0 0 := by
  refine M0_of (cc := cX0_copyFrom) (maxL := 3) (ret := none) (by decide +kernel) rfl (Nat.le_of_ble_eq_true rfl) ?_
  intro p e s m args below meth c A0 B ls hl
  obtain ⟨hx, hb, hml, hr, hown, hts, hlocks, hK, hP, hD, hA, hST, hnm⟩ := B
  have hown : s.vm.findClass RX0 = some m.cls := hown
  have hS : va_S A0 s.heap s.heap [] := va_S.rf
  have hl : lv_has ls 3 [(0, .ref (B 0)), (1, .ref (A 0))] := hl
  refine lv_aload_n hx hb dX0_copyFrom_0 rfl (lv_at hl 1 rfl) ?_
  refine w_get hx hb hts iX0_copyFrom_X0 hown hK hP 0 rfl rfl 0 (by decide) fX0_copyFrom_13 rfl rfl dX0_copyFrom_1 ?_
  refine lv_iconst (v := 0) hx hb dX0_copyFrom_4 (by decide) ?_
  refine lv_aload_n hx hb dX0_copyFrom_5 rfl (lv_at hl 0 rfl) ?_
  refine w_get hx hb hts iX0_copyFrom_X0 hown hK hP 15 rfl rfl 0 (by decide) fX0_copyFrom_13 rfl rfl dX0_copyFrom_6 ?_
  refine lv_iconst (v := 0) hx hb dX0_copyFrom_9 (by decide) ?_
  refine lv_aload_n hx hb dX0_copyFrom_10 rfl (lv_at hl 0 rfl) ?_
  refine w_get hx hb hts iX0_copyFrom_X0 hown hK hP 15 rfl rfl 0 (by decide) fX0_copyFrom_13 rfl rfl dX0_copyFrom_11 ?_
  refine w_alen hx hb hK hP 16 0 rfl rfl dX0_copyFrom_14 ?_
  refine w_copy hx hb (hml.trans hl.1.symm) hown (hts _ mlX0_copyFrom_128) (hts _ mnX0_copyFrom) (hts _ mtX0_copyFrom) (hts _ myX0_copyFrom) hK hP hD hS 1 16 rfl rfl rfl (by decide) rfl (Nat.le_of_ble_eq_true rfl) (Nat.le_of_ble_eq_true rfl) (ws' := CW cI cC cT A nc nt f g ++ CW cI cC cT B nc2 nt2 (cpS f f2) g2) (by rw [cpy_stk]; rfl) dX0_copyFrom_15 (fun H locs hP hD hS => ?_)
  refine lv_aload_n hx hb dX0_copyFrom_18 rfl (lv_at hl 1 rfl) ?_
  refine w_get hx hb hts iX0_copyFrom_X0 hown hK hP 0 rfl rfl 1 (by decide) fX0_copyFrom_18 rfl rfl dX0_copyFrom_19 ?_
  refine lv_iconst (v := 0) hx hb dX0_copyFrom_22 (by decide) ?_
  refine lv_aload_n hx hb dX0_copyFrom_23 rfl (lv_at hl 0 rfl) ?_
  refine w_get hx hb hts iX0_copyFrom_X0 hown hK hP 15 rfl rfl 1 (by decide) fX0_copyFrom_18 rfl rfl dX0_copyFrom_24 ?_
  refine lv_iconst (v := 0) hx hb dX0_copyFrom_27 (by decide) ?_
  refine lv_aload_n hx hb dX0_copyFrom_28 rfl (lv_at hl 0 rfl) ?_
  refine w_get hx hb hts iX0_copyFrom_X0 hown hK hP 15 rfl rfl 1 (by decide) fX0_copyFrom_18 rfl rfl dX0_copyFrom_29 ?_
  refine w_alen hx hb hK hP 17 0 rfl rfl dX0_copyFrom_32 ?_
  refine w_copy hx hb (hml.trans hl.1.symm) hown (hts _ mlX0_copyFrom_128) (hts _ mnX0_copyFrom) (hts _ mtX0_copyFrom) (hts _ myX0_copyFrom) hK hP hD hS 2 17 rfl rfl rfl (by decide) rfl (Nat.le_of_ble_eq_true rfl) (Nat.le_of_ble_eq_true rfl) (ws' := CW cI cC cT A nc nt f g ++ CW cI cC cT B nc2 nt2 (cpS f f2) (va_cpy g g2 0 0 7)) rfl dX0_copyFrom_33 (fun H locs hP hD hS => ?_)
  refine lv_iconst (v := 0) hx hb dX0_copyFrom_36 (by decide) ?_
  refine lv_istore_n (lv' := [(2, .int 0), (0, .ref (B 0)), (1, .ref (A 0))]) hx hb dX0_copyFrom_37 rfl hl (by decide) rfl (fun ls hl => ?_)
  have lp0 : ∀ (n j : Nat), j + n = 4 → ∀ (H : Heap) (locs : List Loc), va_P D vwCl (CW cI cC cT A nc nt f g ++ CW cI cC cT B nc2 nt2 (fo (cpC f) j (cpS f f2)) (va_cpy g g2 0 0 7)) H → va_D A0 (CW cI cC cT A nc nt f g ++ CW cI cC cT B nc2 nt2 (fo (cpC f) j (cpS f f2)) (va_cpy g g2 0 0 7)) → va_S A0 s.heap H locs → ∀ ls, lv_has ls 3 [(2, .int (nI j)), (0, .ref (B 0)), (1, .ref (A 0))] → W p l e ({ frames := 1, cells := 0, slots := 0, locals := 80 } : Room) s m args below meth c H locs 0 0 (Q0 below D (none) (CW cI cC cT A nc nt f g ++ CW cI cC cT B nc nt f g) A0 args s 0 0) (F0 m 38 ls []) := by
    intro n
    induction n with
    | zero =>
      intro j hj   H locs hP hD hS ls hl
      have hje : 4 = j := by omega
      subst hje
      refine lv_iload_n hx hb dX0_copyFrom_38 rfl (lv_at hl 0 rfl) ?_
      refine lv_iconst (v := 4) hx hb dX0_copyFrom_39 (by decide) ?_
      refine lv_icmp_ge (tgt := 64) hx hb dX0_copyFrom_40 (by decide) (fun c_40 => ?_) (fun c_40 => ?_)
      rotate_left
      · exact absurd (by decide) c_40
      refine lv_iconst (v := 0) hx hb dX0_copyFrom_64 (by decide) ?_
      refine lv_istore_n (lv' := [(2, .int 0), (0, .ref (B 0)), (1, .ref (A 0))]) hx hb dX0_copyFrom_65 rfl hl (by decide) rfl (fun ls hl => ?_)
      have lp1 : ∀ (n j : Nat), j + n = 6 → ∀ (H : Heap) (locs : List Loc), va_P D vwCl (CW cI cC cT A nc nt f g ++ CW cI cC cT B nc2 nt2 (fo (cpT f) j (fo (cpC f) 4 (cpS f f2))) (va_cpy g g2 0 0 7)) H → va_D A0 (CW cI cC cT A nc nt f g ++ CW cI cC cT B nc2 nt2 (fo (cpT f) j (fo (cpC f) 4 (cpS f f2))) (va_cpy g g2 0 0 7)) → va_S A0 s.heap H locs → ∀ ls, lv_has ls 3 [(2, .int (nI j)), (0, .ref (B 0)), (1, .ref (A 0))] → W p l e ({ frames := 1, cells := 0, slots := 0, locals := 80 } : Room) s m args below meth c H locs 0 0 (Q0 below D (none) (CW cI cC cT A nc nt f g ++ CW cI cC cT B nc nt f g) A0 args s 0 0) (F0 m 66 ls []) := by
        intro n
        induction n with
        | zero =>
          intro j hj   H locs hP hD hS ls hl
          have hje : 6 = j := by omega
          subst hje
          refine lv_iload_n hx hb dX0_copyFrom_66 rfl (lv_at hl 0 rfl) ?_
          refine lv_bipush (v := 6) hx hb dX0_copyFrom_67 (by decide) ?_
          refine lv_icmp_ge (tgt := 93) hx hb dX0_copyFrom_69 (by decide) (fun c_69 => ?_) (fun c_69 => ?_)
          rotate_left
          · exact absurd (by decide) c_69
          refine lv_aload_n hx hb dX0_copyFrom_93 rfl (lv_at hl 1 rfl) ?_
          refine lv_aload_n hx hb dX0_copyFrom_94 rfl (lv_at hl 2 rfl) ?_
          refine w_get hx hb hts iX0_copyFrom_X0 hown hK hP 0 rfl rfl 4 (by decide) fX0_copyFrom_83 rfl rfl dX0_copyFrom_95 ?_
          refine w_put (C := RX0) hx hb hts iX0_copyFrom_X0 tyX0_ok nmX0 hown hK hP hD hS 15 rfl rfl 4 (by decide) fX0_copyFrom_83 rfl rfl rfl rfl (Nat.le_of_ble_eq_true rfl) (ws' := CW cI cC cT A nc nt f g ++ CW cI cC cT B nc nt2 (fo (cpT f) 6 (fo (cpC f) 4 (cpS f f2))) (va_cpy g g2 0 0 7)) rfl dX0_copyFrom_98 (fun H locs hP hD hS => ?_)
          refine lv_aload_n hx hb dX0_copyFrom_101 rfl (lv_at hl 1 rfl) ?_
          refine lv_aload_n hx hb dX0_copyFrom_102 rfl (lv_at hl 2 rfl) ?_
          refine w_get hx hb hts iX0_copyFrom_X0 hown hK hP 0 rfl rfl 5 (by decide) fX0_copyFrom_68 rfl rfl dX0_copyFrom_103 ?_
          refine w_put (C := RX0) hx hb hts iX0_copyFrom_X0 tyX0_ok nmX0 hown hK hP hD hS 15 rfl rfl 5 (by decide) fX0_copyFrom_68 rfl rfl rfl rfl (Nat.le_of_ble_eq_true rfl) (ws' := CW cI cC cT A nc nt f g ++ CW cI cC cT B nc nt (fo (cpT f) 6 (fo (cpC f) 4 (cpS f f2))) (va_cpy g g2 0 0 7)) rfl dX0_copyFrom_106 (fun H locs hP hD hS => ?_)
          refine lv_aload_n hx hb dX0_copyFrom_109 rfl (lv_at hl 1 rfl) ?_
          refine lv_aload_n hx hb dX0_copyFrom_110 rfl (lv_at hl 2 rfl) ?_
          refine w_get hx hb hts iX0_copyFrom_X0 hown hK hP 0 rfl rfl 6 (by decide) fX0_copyFrom_41 rfl rfl dX0_copyFrom_111 ?_
          refine w_put (C := RX0) hx hb hts iX0_copyFrom_X0 tyX0_ok nmX0 hown hK hP hD hS 15 rfl rfl 6 (by decide) fX0_copyFrom_41 rfl rfl rfl rfl (Nat.le_of_ble_eq_true rfl) (ws' := CW cI cC cT A nc nt f g ++ CW cI cC cT B nc nt (upd (fo (cpT f) 6 (fo (cpC f) 4 (cpS f f2))) 0 (f 0)) (va_cpy g g2 0 0 7)) rfl dX0_copyFrom_114 (fun H locs hP hD hS => ?_)
          refine lv_aload_n hx hb dX0_copyFrom_117 rfl (lv_at hl 1 rfl) ?_
          refine lv_aload_n hx hb dX0_copyFrom_118 rfl (lv_at hl 2 rfl) ?_
          refine w_get hx hb hts iX0_copyFrom_X0 hown hK hP 0 rfl rfl 7 (by decide) fX0_copyFrom_49 rfl rfl dX0_copyFrom_119 ?_
          refine w_put (C := RX0) hx hb hts iX0_copyFrom_X0 tyX0_ok nmX0 hown hK hP hD hS 15 rfl rfl 7 (by decide) fX0_copyFrom_49 rfl rfl rfl rfl (Nat.le_of_ble_eq_true rfl) (ws' := CW cI cC cT A nc nt f g ++ CW cI cC cT B nc nt (upd (upd (fo (cpT f) 6 (fo (cpC f) 4 (cpS f f2))) 0 (f 0)) 5 (f 5)) (va_cpy g g2 0 0 7)) rfl dX0_copyFrom_122 (fun H locs hP hD hS => ?_)
          refine lv_aload_n hx hb dX0_copyFrom_125 rfl (lv_at hl 1 rfl) ?_
          refine lv_aload_n hx hb dX0_copyFrom_126 rfl (lv_at hl 2 rfl) ?_
          refine w_get hx hb hts iX0_copyFrom_X0 hown hK hP 0 rfl rfl 8 (by decide) fX0_copyFrom_59 rfl rfl dX0_copyFrom_127 ?_
          refine w_put (C := RX0) hx hb hts iX0_copyFrom_X0 tyX0_ok nmX0 hown hK hP hD hS 15 rfl rfl 8 (by decide) fX0_copyFrom_59 rfl rfl rfl rfl (Nat.le_of_ble_eq_true rfl) (ws' := CW cI cC cT A nc nt f g ++ CW cI cC cT B nc nt (upd (upd (upd (fo (cpT f) 6 (fo (cpC f) 4 (cpS f f2))) 0 (f 0)) 5 (f 5)) 6 (f 6)) (va_cpy g g2 0 0 7)) rfl dX0_copyFrom_130 (fun H locs hP hD hS => ?_)
          have hP : va_P D vwCl (CW cI cC cT A nc nt f g ++ CW cI cC cT B nc nt f (va_cpy g g2 0 0 7)) H := hP
          have hP := P_arr hP 17 rfl (f' := g) (fun j hj => by unfold va_cpy; rw [if_pos (by omega)]; simp)
          exact e0_v hx hb hr hlocks hP hS dX0_copyFrom_133 (by decide) (by decide) (rfl)
        | succ n ih =>
          intro j hj   H locs hP hD hS ls hl
          refine lv_iload_n hx hb dX0_copyFrom_66 rfl (lv_at hl 0 rfl) ?_
          refine lv_bipush (v := 6) hx hb dX0_copyFrom_67 (by decide) ?_
          refine lv_icmp_ge (tgt := 93) hx hb dX0_copyFrom_69 (by decide) (fun c_69 => ?_) (fun c_69 => ?_)
          · exact absurd c_69 (nI_ge (b := 6) (by omega) (by decide))
          refine lv_aload_n hx hb dX0_copyFrom_72 rfl (lv_at hl 1 rfl) ?_
          refine w_get hx hb hts iX0_copyFrom_X0 hown hK hP 15 rfl rfl 3 (by decide) fX0_copyFrom_29 rfl rfl dX0_copyFrom_73 ?_
          refine lv_iload_n hx hb dX0_copyFrom_76 rfl (lv_at hl 0 rfl) ?_
          refine w_qld hx hb hK hP 19 2 rfl rfl j rfl (by omega) (by decide) (v := B (9 + j)) rfl dX0_copyFrom_77 ?_
          refine lv_aload_n hx hb dX0_copyFrom_78 rfl (lv_at hl 2 rfl) ?_
          refine w_get hx hb hts iX0_copyFrom_X0 hown hK hP 0 rfl rfl 3 (by decide) fX0_copyFrom_29 rfl rfl dX0_copyFrom_79 ?_
          refine lv_iload_n hx hb dX0_copyFrom_82 rfl (lv_at hl 0 rfl) ?_
          refine w_qld hx hb hK hP 4 2 rfl rfl j rfl (by omega) (by decide) (v := A (9 + j)) rfl dX0_copyFrom_83 ?_
          refine c0_V (As := [.ref (A (9 + j))]) (rest := []) ⟨hx, hb, hml, hown, hts⟩ (mX2_copyFrom l D cI cC cT cL (B (9 + j)) (A (9 + j)) ((fo (cpT f) j (fo (cpC f) 4 (cpS f f2))) (19 + 3 * j)) ((fo (cpT f) j (fo (cpC f) 4 (cpS f f2))) (20 + 3 * j)) ((fo (cpT f) j (fo (cpC f) 4 (cpS f f2))) (21 + 3 * j)) (f (19 + 3 * j)) (f (20 + 3 * j)) (f (21 + 3 * j))) (cwV 1 hts gX0_copyFrom_X2_copyFrom rfl rfl rfl pX2_copyFrom ⟨Nat.le_of_ble_eq_true rfl, Nat.le_of_ble_eq_true rfl⟩) hK hP hD hS hA hST (Jn_cpT j (by omega)) 0 rfl rfl rfl rfl hl.1 rfl (Nat.le_of_ble_eq_true rfl) dX0_copyFrom_84 ⟨Nat.le_of_ble_eq_true rfl, Nat.le_of_ble_eq_true rfl⟩ rfl (fun H locs hP hD hS => ?_)
          refine lv_iinc (v := nI (j + 1)) (lv' := [(2, .int (nI (j + 1))), (0, .ref (B 0)), (1, .ref (A 0))]) hx hb dX0_copyFrom_87 hl (k := 0) rfl (nI_succ _).symm (by decide) rfl (fun ls hl => ?_)
          refine lv_goto (tgt := 66) hx hb dX0_copyFrom_90 (by decide) ?_
          exact ih (j + 1) (by omega) _ _ hP hD hS _ (lv_sub hl [0, 1, 2] rfl)
      exact lp1 6 0 (by omega) _ _ hP hD hS _ (lv_sub hl [0, 1, 2] rfl)
    | succ n ih =>
      intro j hj   H locs hP hD hS ls hl
      refine lv_iload_n hx hb dX0_copyFrom_38 rfl (lv_at hl 0 rfl) ?_
      refine lv_iconst (v := 4) hx hb dX0_copyFrom_39 (by decide) ?_
      refine lv_icmp_ge (tgt := 64) hx hb dX0_copyFrom_40 (by decide) (fun c_40 => ?_) (fun c_40 => ?_)
      · exact absurd c_40 (nI_ge (b := 4) (by omega) (by decide))
      refine lv_aload_n hx hb dX0_copyFrom_43 rfl (lv_at hl 1 rfl) ?_
      refine w_get hx hb hts iX0_copyFrom_X0 hown hK hP 15 rfl rfl 2 (by decide) fX0_copyFrom_23 rfl rfl dX0_copyFrom_44 ?_
      refine lv_iload_n hx hb dX0_copyFrom_47 rfl (lv_at hl 0 rfl) ?_
      refine w_qld hx hb hK hP 18 1 rfl rfl j rfl (by omega) (by decide) (v := B (5 + j)) rfl dX0_copyFrom_48 ?_
      refine lv_aload_n hx hb dX0_copyFrom_49 rfl (lv_at hl 2 rfl) ?_
      refine w_get hx hb hts iX0_copyFrom_X0 hown hK hP 0 rfl rfl 2 (by decide) fX0_copyFrom_23 rfl rfl dX0_copyFrom_50 ?_
      refine lv_iload_n hx hb dX0_copyFrom_53 rfl (lv_at hl 0 rfl) ?_
      refine w_qld hx hb hK hP 3 1 rfl rfl j rfl (by omega) (by decide) (v := A (5 + j)) rfl dX0_copyFrom_54 ?_
      refine c0_V (As := [.ref (A (5 + j))]) (rest := []) ⟨hx, hb, hml, hown, hts⟩ (mX1_copyFrom l D cI cC cT cL (B (5 + j)) (A (5 + j)) ((fo (cpC f) j (cpS f f2)) (7 + 3 * j)) ((fo (cpC f) j (cpS f f2)) (8 + 3 * j)) ((fo (cpC f) j (cpS f f2)) (9 + 3 * j)) (f (7 + 3 * j)) (f (8 + 3 * j)) (f (9 + 3 * j))) (cwV 1 hts gX0_copyFrom_X1_copyFrom rfl rfl rfl pX1_copyFrom ⟨Nat.le_of_ble_eq_true rfl, Nat.le_of_ble_eq_true rfl⟩) hK hP hD hS hA hST (Jn_cpC j (by omega)) 0 rfl rfl rfl rfl hl.1 rfl (Nat.le_of_ble_eq_true rfl) dX0_copyFrom_55 ⟨Nat.le_of_ble_eq_true rfl, Nat.le_of_ble_eq_true rfl⟩ rfl (fun H locs hP hD hS => ?_)
      refine lv_iinc (v := nI (j + 1)) (lv' := [(2, .int (nI (j + 1))), (0, .ref (B 0)), (1, .ref (A 0))]) hx hb dX0_copyFrom_58 hl (k := 0) rfl (nI_succ _).symm (by decide) rfl (fun ls hl => ?_)
      refine lv_goto (tgt := 38) hx hb dX0_copyFrom_61 (by decide) ?_
      exact ih (j + 1) (by omega) _ _ hP hD hS _ (lv_sub hl [0, 1, 2] rfl)
  exact lp0 4 0 (by omega) _ _ hP hD hS _ (lv_sub hl [0, 1, 2] rfl)

set_option maxHeartbeats 4000000 in
set_option maxRecDepth 100000 in
theorem mX3_foresee (l : Launch) (D : va_G) (cI cC cT cL : ClassId) (hl0 : l.stackTraces = false) (x : Nat) (A B : Nat → Nat) (nc nt : Nat) (f g : Nat → Int32) (nc2 nt2 : Nat) (f2 g2 : Nat → Int32) (u v : Int32) (hnc : nc ≤ 4) (hnt : nt ≤ 6) (hI : Inv f) (hg : Gd g) (h : Nat) (hh : h < 2 ^ 29) (h0 : f 0 = nI h) : M1 l yX3_foresee wsX3_foresee ({ frames := 7, cells := 2, slots := 12, locals := 112 } : Room) D (TY cI cC cT cL) [.ref x, .int u, .int v] (YW cI cC cT x A (B 0) nc nt f g ++ CW cI cC cT B nc2 nt2 f2 g2) (kFore u v = 0) (some (.int (cntF nt (rep (hourF nc nt g) u.toNatClampNeg f) g v.toNatClampNeg))) (YW cI cC cT x A (B 0) nc nt f g ++ CW cI cC cT B nc nt (rep (hourF nc nt g) u.toNatClampNeg f) g) (XE (kFore u v) IAE IOOBE ISE) 2 12 := by
  refine M1_of (cc := cX3_foresee) (maxL := 3) (ret := (some .int)) (by decide +kernel) rfl (Nat.le_of_ble_eq_true rfl) ?_
  intro p e s m args below meth c A0 B htab ls hl
  obtain ⟨hx, hb, hml, hr, hown, hts, hlocks, hK, hP, hD, hA, hST, hnm⟩ := B
  have hown : s.vm.findClass RX3 = some m.cls := hown
  have hS : va_S A0 s.heap s.heap [] := va_S.rf
  have hl : lv_has ls 3 [(0, .ref x), (1, .int u), (2, .int v)] := hl
  refine lv_iload_n hx hb dX3_foresee_0 rfl (lv_at hl 1 rfl) ?_
  refine c1_S (As := [.int u]) (rest := []) ⟨hx, hb, hml, hown, hts⟩ (mX3_checkHours l D cI cC cT cL hl0 u) (va_cwS 1 hts gX3_foresee_X3_checkHours rfl rfl rfl pX3_checkHours ⟨Nat.le_of_ble_eq_true rfl, Nat.le_of_ble_eq_true rfl⟩) hK hP hD hS hA hST (Jn_nil _) (Jn_nil _) rfl hl.1 rfl (Nat.le_of_ble_eq_true rfl) dX3_foresee_1 ⟨Nat.le_of_ble_eq_true rfl, Nat.le_of_ble_eq_true rfl⟩ rfl (fun E ce q9 H locs hE hP hS h1 h2 h3 => e1_out htab hlocks (Or.inl ⟨by rw [kFore, if_neg hE.1], hE.2⟩) hP hS h1 h2 h3 (by decide) (by decide)) (fun hok1 H locs hP hD hS => ?_)
  refine lv_iload_n hx hb dX3_foresee_4 rfl (lv_at hl 2 rfl) ?_
  refine lv_iconst (v := 2) hx hb dX3_foresee_5 (by decide) ?_
  refine lv_icmp_eq (tgt := 31) hx hb dX3_foresee_6 (by decide) (fun c_6 => ?_) (fun c_6 => ?_)
  ·
    obtain ⟨r, hr9, hr1, er⟩ := cIn_1 hok1
    subst er
    have ec6 := c_6
    subst ec6
    refine lv_aload_n hx hb dX3_foresee_31 rfl (lv_at hl 0 rfl) ?_
    refine w_get hx hb hts iX3_foresee_X3 hown hK hP 0 rfl rfl 1 (by decide) fX3_foresee_16 rfl rfl dX3_foresee_32 ?_
    refine lv_aload_n hx hb dX3_foresee_35 rfl (lv_at hl 0 rfl) ?_
    refine w_get hx hb hts iX3_foresee_X3 hown hK hP 0 rfl rfl 0 (by decide) fX3_foresee_10 rfl rfl dX3_foresee_36 ?_
    refine c0_V (As := [.ref (A 0)]) (rest := []) ⟨hx, hb, hml, hown, hts⟩ (mX0_copyFrom l D cI cC cT cL A B nc nt f g nc2 nt2 f2 g2) (cwV 1 hts gX3_foresee_X0_copyFrom rfl rfl rfl pX0_copyFrom ⟨Nat.le_of_ble_eq_true rfl, Nat.le_of_ble_eq_true rfl⟩) hK hP hD hS hA hST (Jn_tail [(x, .inr (3, [.ref (A 0), .ref (B 0)]))] (CW cI cC cT A nc nt f g ++ CW cI cC cT B nc2 nt2 f2 g2) (CW cI cC cT A nc nt f g ++ CW cI cC cT B nc nt f g) rfl) 15 rfl rfl rfl rfl hl.1 rfl (Nat.le_of_ble_eq_true rfl) dX3_foresee_39 ⟨Nat.le_of_ble_eq_true rfl, Nat.le_of_ble_eq_true rfl⟩ rfl (fun H locs hP hD hS => ?_)
    have hP : va_P D vwCl (YW cI cC cT x A (B 0) nc nt f g ++ CW cI cC cT B nc nt f g) H := hP
    have hD : va_D A0 (YW cI cC cT x A (B 0) nc nt f g ++ CW cI cC cT B nc nt f g) := hD
    refine lv_aload_n hx hb dX3_foresee_42 rfl (lv_at hl 0 rfl) ?_
    refine w_get hx hb hts iX3_foresee_X3 hown hK hP 0 rfl rfl 1 (by decide) fX3_foresee_16 rfl rfl dX3_foresee_43 ?_
    refine lv_iload_n hx hb dX3_foresee_46 rfl (lv_at hl 1 rfl) ?_
    refine c0_V (As := [.int (nI r)]) (rest := []) ⟨hx, hb, hml, hown, hts⟩ (mX0_runHours l D cI cC cT cL B nc nt f g hnc hnt hI hg h h0 r (by omega)) (cwV 1 hts gX3_foresee_X0_runHours rfl rfl rfl pX0_runHours ⟨Nat.le_of_ble_eq_true rfl, Nat.le_of_ble_eq_true rfl⟩) hK hP hD hS hA hST (Jn_tail _ _ _ rfl) 0 rfl rfl rfl rfl hl.1 rfl (Nat.le_of_ble_eq_true rfl) dX3_foresee_47 ⟨Nat.le_of_ble_eq_true rfl, Nat.le_of_ble_eq_true rfl⟩ rfl (fun H locs hP hD hS => ?_)
    refine lv_aload_n hx hb dX3_foresee_50 rfl (lv_at hl 0 rfl) ?_
    refine w_get hx hb hts iX3_foresee_X3 hown hK hP 0 rfl rfl 1 (by decide) fX3_foresee_16 rfl rfl dX3_foresee_51 ?_
    refine lv_iload_n hx hb dX3_foresee_54 rfl (lv_at hl 2 rfl) ?_
    refine c0_V (As := [.int 2]) (rest := []) ⟨hx, hb, hml, hown, hts⟩ (mX0_number l D cI cC cT cL B nc nt (rep (hourF nc nt g) r f) g hnt (h + r) (by omega) (Inv.hours hI hg hnc hnt h0 r (by omega)).2 2 (by decide)) (cwV 1 hts gX3_foresee_X0_number rfl rfl rfl pX0_number ⟨Nat.le_of_ble_eq_true rfl, Nat.le_of_ble_eq_true rfl⟩) hK hP hD hS hA hST (Jn_tail _ _ _ rfl) 0 rfl rfl rfl rfl hl.1 rfl (Nat.le_of_ble_eq_true rfl) dX3_foresee_55 ⟨Nat.le_of_ble_eq_true rfl, Nat.le_of_ble_eq_true rfl⟩ rfl (fun H locs hP hD hS => ?_)
    exact e1_i hx hb hr hlocks (by rw [kFore, if_pos hok1, if_pos c_6]) (P_eq (by first | (rw [nI_clamp (by omega), nI_clamp (by omega), nI_clamp (by omega)] <;> rfl) | (rw [nI_clamp (by omega), nI_clamp (by omega)] <;> rfl) | (rw [nI_clamp (by omega)] <;> rfl) | rfl) hP) hS dX3_foresee_58 (by decide) (by decide) (by first | (rw [nI_clamp (by omega), nI_clamp (by omega), nI_clamp (by omega)] <;> rfl) | (rw [nI_clamp (by omega), nI_clamp (by omega)] <;> rfl) | (rw [nI_clamp (by omega)] <;> rfl) | rfl)
  ·
    refine lv_iload_n hx hb dX3_foresee_9 rfl (lv_at hl 2 rfl) ?_
    refine lv_bipush (v := 6) hx hb dX3_foresee_10 (by decide) ?_
    refine lv_icmp_lt (tgt := 21) hx hb dX3_foresee_12 (by decide) (fun c_12 => ?_) (fun c_12 => ?_)
    ·
      exact e1_throw hx hb hl0 hown hts (by decide +kernel) tkX3_foresee_19 tiX3_foresee_19 tgX3_foresee_19 vg_1 vo_1 (by decide) hST (List.mem_of_getElem? (i := 16) rfl) hS (hl.1.trans hml.symm) dX3_foresee_21 dX3_foresee_24 dX3_foresee_25 dX3_foresee_27 dX3_foresee_30 htab (Nat.le_of_ble_eq_true rfl) (Nat.le_of_ble_eq_true rfl) (Nat.le_of_ble_eq_true rfl) (Nat.le_of_ble_eq_true rfl) hlocks (Or.inr (Or.inl ⟨by rw [kFore, if_pos hok1, if_neg c_6, if_neg (fun h => absurd h.1 (Int32.not_le.mpr c_12))], rfl⟩)) hP (Nat.le_of_ble_eq_true rfl) (Nat.le_of_ble_eq_true rfl)
    ·
      refine lv_iload_n hx hb dX3_foresee_15 rfl (lv_at hl 2 rfl) ?_
      refine lv_bipush (v := 10) hx hb dX3_foresee_16 (by decide) ?_
      refine lv_icmp_lt (tgt := 31) hx hb dX3_foresee_18 (by decide) (fun c_18 => ?_) (fun c_18 => ?_)
      ·
        obtain ⟨r, hr9, hr1, er⟩ := cIn_1 hok1
        subst er
        obtain ⟨w, hw, ew⟩ := cIn_n 9 (by decide) (Int32.le_trans (by decide) (Int32.not_lt.mp c_12)) (le9 c_18)
        subst ew
        refine lv_aload_n hx hb dX3_foresee_31 rfl (lv_at hl 0 rfl) ?_
        refine w_get hx hb hts iX3_foresee_X3 hown hK hP 0 rfl rfl 1 (by decide) fX3_foresee_16 rfl rfl dX3_foresee_32 ?_
        refine lv_aload_n hx hb dX3_foresee_35 rfl (lv_at hl 0 rfl) ?_
        refine w_get hx hb hts iX3_foresee_X3 hown hK hP 0 rfl rfl 0 (by decide) fX3_foresee_10 rfl rfl dX3_foresee_36 ?_
        refine c0_V (As := [.ref (A 0)]) (rest := []) ⟨hx, hb, hml, hown, hts⟩ (mX0_copyFrom l D cI cC cT cL A B nc nt f g nc2 nt2 f2 g2) (cwV 1 hts gX3_foresee_X0_copyFrom rfl rfl rfl pX0_copyFrom ⟨Nat.le_of_ble_eq_true rfl, Nat.le_of_ble_eq_true rfl⟩) hK hP hD hS hA hST (Jn_tail [(x, .inr (3, [.ref (A 0), .ref (B 0)]))] (CW cI cC cT A nc nt f g ++ CW cI cC cT B nc2 nt2 f2 g2) (CW cI cC cT A nc nt f g ++ CW cI cC cT B nc nt f g) rfl) 15 rfl rfl rfl rfl hl.1 rfl (Nat.le_of_ble_eq_true rfl) dX3_foresee_39 ⟨Nat.le_of_ble_eq_true rfl, Nat.le_of_ble_eq_true rfl⟩ rfl (fun H locs hP hD hS => ?_)
        have hP : va_P D vwCl (YW cI cC cT x A (B 0) nc nt f g ++ CW cI cC cT B nc nt f g) H := hP
        have hD : va_D A0 (YW cI cC cT x A (B 0) nc nt f g ++ CW cI cC cT B nc nt f g) := hD
        refine lv_aload_n hx hb dX3_foresee_42 rfl (lv_at hl 0 rfl) ?_
        refine w_get hx hb hts iX3_foresee_X3 hown hK hP 0 rfl rfl 1 (by decide) fX3_foresee_16 rfl rfl dX3_foresee_43 ?_
        refine lv_iload_n hx hb dX3_foresee_46 rfl (lv_at hl 1 rfl) ?_
        refine c0_V (As := [.int (nI r)]) (rest := []) ⟨hx, hb, hml, hown, hts⟩ (mX0_runHours l D cI cC cT cL B nc nt f g hnc hnt hI hg h h0 r (by omega)) (cwV 1 hts gX3_foresee_X0_runHours rfl rfl rfl pX0_runHours ⟨Nat.le_of_ble_eq_true rfl, Nat.le_of_ble_eq_true rfl⟩) hK hP hD hS hA hST (Jn_tail _ _ _ rfl) 0 rfl rfl rfl rfl hl.1 rfl (Nat.le_of_ble_eq_true rfl) dX3_foresee_47 ⟨Nat.le_of_ble_eq_true rfl, Nat.le_of_ble_eq_true rfl⟩ rfl (fun H locs hP hD hS => ?_)
        refine lv_aload_n hx hb dX3_foresee_50 rfl (lv_at hl 0 rfl) ?_
        refine w_get hx hb hts iX3_foresee_X3 hown hK hP 0 rfl rfl 1 (by decide) fX3_foresee_16 rfl rfl dX3_foresee_51 ?_
        refine lv_iload_n hx hb dX3_foresee_54 rfl (lv_at hl 2 rfl) ?_
        refine c0_V (As := [.int (nI w)]) (rest := []) ⟨hx, hb, hml, hown, hts⟩ (mX0_number l D cI cC cT cL B nc nt (rep (hourF nc nt g) r f) g hnt (h + r) (by omega) (Inv.hours hI hg hnc hnt h0 r (by omega)).2 w (by omega)) (cwV 1 hts gX3_foresee_X0_number rfl rfl rfl pX0_number ⟨Nat.le_of_ble_eq_true rfl, Nat.le_of_ble_eq_true rfl⟩) hK hP hD hS hA hST (Jn_tail _ _ _ rfl) 0 rfl rfl rfl rfl hl.1 rfl (Nat.le_of_ble_eq_true rfl) dX3_foresee_55 ⟨Nat.le_of_ble_eq_true rfl, Nat.le_of_ble_eq_true rfl⟩ rfl (fun H locs hP hD hS => ?_)
        exact e1_i hx hb hr hlocks (by rw [kFore, if_pos hok1, if_neg c_6, if_pos ⟨Int32.not_lt.mp c_12, le9 c_18⟩]) (P_eq (by first | (rw [nI_clamp (by omega), nI_clamp (by omega), nI_clamp (by omega)] <;> rfl) | (rw [nI_clamp (by omega), nI_clamp (by omega)] <;> rfl) | (rw [nI_clamp (by omega)] <;> rfl) | rfl) hP) hS dX3_foresee_58 (by decide) (by decide) (by first | (rw [nI_clamp (by omega), nI_clamp (by omega), nI_clamp (by omega)] <;> rfl) | (rw [nI_clamp (by omega), nI_clamp (by omega)] <;> rfl) | (rw [nI_clamp (by omega)] <;> rfl) | rfl)
      ·
        exact e1_throw hx hb hl0 hown hts (by decide +kernel) tkX3_foresee_19 tiX3_foresee_19 tgX3_foresee_19 vg_1 vo_1 (by decide) hST (List.mem_of_getElem? (i := 16) rfl) hS (hl.1.trans hml.symm) dX3_foresee_21 dX3_foresee_24 dX3_foresee_25 dX3_foresee_27 dX3_foresee_30 htab (Nat.le_of_ble_eq_true rfl) (Nat.le_of_ble_eq_true rfl) (Nat.le_of_ble_eq_true rfl) (Nat.le_of_ble_eq_true rfl) hlocks (Or.inr (Or.inl ⟨by rw [kFore, if_pos hok1, if_neg c_6, if_neg (fun h => c_18 (lt10 h.2))], rfl⟩)) hP (Nat.le_of_ble_eq_true rfl) (Nat.le_of_ble_eq_true rfl)
