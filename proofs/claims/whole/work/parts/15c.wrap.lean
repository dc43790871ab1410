set_option maxHeartbeats 4000000 in
set_option maxRecDepth 100000 in
theorem wbring (l : Launch) (D : va_G) (cI cC cT cL : ClassId) (hl0 : l.stackTraces = false) (x b0 : Nat) (A : Nat → Nat) (nc nt : Nat) (f g : Nat → Int32) (ob : Nat) (w : Nat → Int64) (u v : Int32) : M0 l yL_bring wsL_bring ({ frames := 7, cells := 1, slots := 6, locals := 112 } : Room) D (TY cI cC cT cL) [.ref x, .int u, .int v, .ref ob] (YW cI cC cT x A b0 nc nt f g ++ OB cL ob w) (some (.int (nI (kBring u v)))) (YW cI cC cT x A b0 nc nt (sel (kBring u v) (bringF f u.toNatClampNeg v) f) g ++ OB cL ob (sel (kBring u v) (vp_updL w 0 ((bringF f u.toNatClampNeg v (u.toNatClampNeg + 1)).toInt64)) w)) 1 6 := by
  refine M0_ofH (hh := [(0, 10, 13, 13), (0, 10, 17, 15)]) (cc := cL_bring) (maxL := 5) (ret := (some .int)) (by decide +kernel) rfl (Nat.le_of_ble_eq_true rfl) ?_
  intro p e s m args below meth c A0 B htab ls hl
  obtain ⟨hx, hb, hml, hr, hown, hts, hlocks, hK, hP, hD, hA, hST, hnm⟩ := B
  have hown : s.vm.findClass RL = some m.cls := hown
  have hS : va_S A0 s.heap s.heap [] := va_S.rf
  have hl : lv_has ls 5 [(0, .ref x), (1, .int u), (2, .int v), (3, .ref ob)] := hl
  refine lv_aload_n hx hb dL_bring_0 rfl (lv_at hl 3 rfl) ?_
  refine lv_iconst (v := 0) hx hb dL_bring_1 (by decide) ?_
  refine lv_aload_n hx hb dL_bring_2 rfl (lv_at hl 0 rfl) ?_
  refine lv_iload_n hx hb dL_bring_3 rfl (lv_at hl 1 rfl) ?_
  refine lv_iload_n hx hb dL_bring_4 rfl (lv_at hl 2 rfl) ?_
  refine c1_V (As := [.int u, .int v]) (rest := [.int 0, .ref ob]) ⟨hx, hb, hml, hown, hts⟩ (mX3_bring l D cI cC cT cL hl0 x b0 A nc nt f g u v) (cwV 2 hts gL_bring_X3_bring rfl rfl rfl pX3_bring ⟨Nat.le_of_ble_eq_true rfl, Nat.le_of_ble_eq_true rfl⟩) hK hP hD hS hA hST (Jn_ywh) (Jn_ywh) 0 rfl rfl rfl rfl hl.1 rfl (Nat.le_of_ble_eq_true rfl) dL_bring_5 ⟨Nat.le_of_ble_eq_true rfl, Nat.le_of_ble_eq_true rfl⟩ rfl (fun E ce q9 H locs hE hP hS h1 h2 h3 => ?_) (fun hok H locs hP hD hS => ?_)
  ·
    rcases hE with ⟨hk, rfl⟩ | ⟨hk, rfl⟩ | ⟨hk, rfl⟩
    ·
      refine vx_catch hown [] ⟨0, 10, 13, 13⟩ [⟨0, 10, 17, 15⟩] (htab.trans rfl) (fun z hz => nomatch hz) (by decide) (by decide) (hts _ clL_bring_13) (va_Nw.use rfl (hST.2.2.2.2.1 _ (by simp [CA]))) h1 h2 h3 ?_
      refine lv_astore (lv' := [(4, .ref q9), (0, .ref x), (1, .int u), (2, .int v), (3, .ref ob)]) hx hb dL_bring_13 hl (by decide) rfl (fun ls hl => ?_)
      refine lv_iconst (v := 1) hx hb dL_bring_15 (by decide) ?_
      exact e0_i hx hb hr hlocks (P_eq (by (rw [hk] <;> rfl)) hP) hS dL_bring_16 (by decide) (by decide) (by (rw [hk] <;> rfl))
    ·
      refine vx_catch hown [⟨0, 10, 13, 13⟩] ⟨0, 10, 17, 15⟩ [] (htab.trans rfl) (fun z hz => by rw [List.mem_singleton.mp hz]; exact Or.inr ⟨by decide, IOOBE, hts _ clL_bring_13, hST.2.2.2.1 _ (List.mem_of_getElem? (i := 2) rfl)⟩) (by decide) (by decide) (hts _ clL_bring_15) (va_Nw.use rfl (hST.2.2.2.2.1 _ (by simp [CA]))) h1 h2 h3 ?_
      refine lv_astore (lv' := [(4, .ref q9), (0, .ref x), (1, .int u), (2, .int v), (3, .ref ob)]) hx hb dL_bring_17 hl (by decide) rfl (fun ls hl => ?_)
      refine lv_iconst (v := 2) hx hb dL_bring_19 (by decide) ?_
      exact e0_i hx hb hr hlocks (P_eq (by (rw [hk] <;> rfl)) hP) hS dL_bring_20 (by decide) (by decide) (by (rw [hk] <;> rfl))
    ·
      exact absurd hk (by intro hk; unfold kBring at hk; (repeat' split at hk) <;> omega)
  ·
    refine lv_i2l hx hb dL_bring_8 rfl ?_
    refine w_lst hx hb hK hP hD hS 16 3 rfl rfl 0 rfl (by decide) (by decide) (ws' := YW cI cC cT x A b0 nc nt (bringF f u.toNatClampNeg v) g ++ OB cL ob (vp_updL w 0 ((bringF f u.toNatClampNeg v (u.toNatClampNeg + 1)).toInt64))) rfl dL_bring_9 (fun H locs hP hD hS => ?_)
    refine lv_goto (tgt := 21) hx hb dL_bring_10 (by decide) ?_
    refine lv_iconst (v := 0) hx hb dL_bring_21 (by decide) ?_
    exact e0_i hx hb hr hlocks (P_eq (by (rw [hok] <;> rfl)) hP) hS dL_bring_22 (by decide) (by decide) (by (rw [hok] <;> rfl))

set_option maxHeartbeats 4000000 in
set_option maxRecDepth 100000 in
theorem wsetHeat (l : Launch) (D : va_G) (cI cC cT cL : ClassId) (hl0 : l.stackTraces = false) (x b0 : Nat) (A : Nat → Nat) (nc nt : Nat) (f g : Nat → Int32) (ob : Nat) (w : Nat → Int64) (u v : Int32) : M0 l yL_setHeat wsL_setHeat ({ frames := 7, cells := 1, slots := 6, locals := 113 } : Room) D (TY cI cC cT cL) [.ref x, .int u, .int v, .ref ob] (YW cI cC cT x A b0 nc nt f g ++ OB cL ob w) (some (.int (nI (kHeat u v)))) (YW cI cC cT x A b0 nc nt f (sel (kHeat u v) (upd g u.toNatClampNeg v) g) ++ OB cL ob (sel (kHeat u v) (vp_updL w 0 ((g u.toNatClampNeg).toInt64)) w)) 1 6 := by
  refine M0_ofH (hh := [(0, 10, 13, 13), (0, 10, 17, 15)]) (cc := cL_setHeat) (maxL := 5) (ret := (some .int)) (by decide +kernel) rfl (Nat.le_of_ble_eq_true rfl) ?_
  intro p e s m args below meth c A0 B htab ls hl
  obtain ⟨hx, hb, hml, hr, hown, hts, hlocks, hK, hP, hD, hA, hST, hnm⟩ := B
  have hown : s.vm.findClass RL = some m.cls := hown
  have hS : va_S A0 s.heap s.heap [] := va_S.rf
  have hl : lv_has ls 5 [(0, .ref x), (1, .int u), (2, .int v), (3, .ref ob)] := hl
  refine lv_aload_n hx hb dL_setHeat_0 rfl (lv_at hl 3 rfl) ?_
  refine lv_iconst (v := 0) hx hb dL_setHeat_1 (by decide) ?_
  refine lv_aload_n hx hb dL_setHeat_2 rfl (lv_at hl 0 rfl) ?_
  refine lv_iload_n hx hb dL_setHeat_3 rfl (lv_at hl 1 rfl) ?_
  refine lv_iload_n hx hb dL_setHeat_4 rfl (lv_at hl 2 rfl) ?_
  refine c1_V (As := [.int u, .int v]) (rest := [.int 0, .ref ob]) ⟨hx, hb, hml, hown, hts⟩ (mX3_setHeat l D cI cC cT cL hl0 x b0 A nc nt f g u v) (cwV 2 hts gL_setHeat_X3_setHeat rfl rfl rfl pX3_setHeat ⟨Nat.le_of_ble_eq_true rfl, Nat.le_of_ble_eq_true rfl⟩) hK hP hD hS hA hST (Jn_ywh) (Jn_ywh) 0 rfl rfl rfl rfl hl.1 rfl (Nat.le_of_ble_eq_true rfl) dL_setHeat_5 ⟨Nat.le_of_ble_eq_true rfl, Nat.le_of_ble_eq_true rfl⟩ rfl (fun E ce q9 H locs hE hP hS h1 h2 h3 => ?_) (fun hok H locs hP hD hS => ?_)
  ·
    rcases hE with ⟨hk, rfl⟩ | ⟨hk, rfl⟩ | ⟨hk, rfl⟩
    ·
      refine vx_catch hown [] ⟨0, 10, 13, 13⟩ [⟨0, 10, 17, 15⟩] (htab.trans rfl) (fun z hz => nomatch hz) (by decide) (by decide) (hts _ clL_setHeat_13) (va_Nw.use rfl (hST.2.2.2.2.1 _ (by simp [CA]))) h1 h2 h3 ?_
      refine lv_astore (lv' := [(4, .ref q9), (0, .ref x), (1, .int u), (2, .int v), (3, .ref ob)]) hx hb dL_setHeat_13 hl (by decide) rfl (fun ls hl => ?_)
      refine lv_iconst (v := 1) hx hb dL_setHeat_15 (by decide) ?_
      exact e0_i hx hb hr hlocks (P_eq (by (rw [hk] <;> rfl)) hP) hS dL_setHeat_16 (by decide) (by decide) (by (rw [hk] <;> rfl))
    ·
      refine vx_catch hown [⟨0, 10, 13, 13⟩] ⟨0, 10, 17, 15⟩ [] (htab.trans rfl) (fun z hz => by rw [List.mem_singleton.mp hz]; exact Or.inr ⟨by decide, IOOBE, hts _ clL_setHeat_13, hST.2.2.2.1 _ (List.mem_of_getElem? (i := 2) rfl)⟩) (by decide) (by decide) (hts _ clL_setHeat_15) (va_Nw.use rfl (hST.2.2.2.2.1 _ (by simp [CA]))) h1 h2 h3 ?_
      refine lv_astore (lv' := [(4, .ref q9), (0, .ref x), (1, .int u), (2, .int v), (3, .ref ob)]) hx hb dL_setHeat_17 hl (by decide) rfl (fun ls hl => ?_)
      refine lv_iconst (v := 2) hx hb dL_setHeat_19 (by decide) ?_
      exact e0_i hx hb hr hlocks (P_eq (by (rw [hk] <;> rfl)) hP) hS dL_setHeat_20 (by decide) (by decide) (by (rw [hk] <;> rfl))
    ·
      exact absurd hk (by intro hk; unfold kHeat at hk; (repeat' split at hk) <;> omega)
  ·
    refine lv_i2l hx hb dL_setHeat_8 rfl ?_
    refine w_lst hx hb hK hP hD hS 16 3 rfl rfl 0 rfl (by decide) (by decide) (ws' := YW cI cC cT x A b0 nc nt f (upd g u.toNatClampNeg v) ++ OB cL ob (vp_updL w 0 ((g u.toNatClampNeg).toInt64))) rfl dL_setHeat_9 (fun H locs hP hD hS => ?_)
    refine lv_goto (tgt := 21) hx hb dL_setHeat_10 (by decide) ?_
    refine lv_iconst (v := 0) hx hb dL_setHeat_21 (by decide) ?_
    exact e0_i hx hb hr hlocks (P_eq (by (rw [hok] <;> rfl)) hP) hS dL_setHeat_22 (by decide) (by decide) (by (rw [hok] <;> rfl))

set_option maxHeartbeats 4000000 in
set_option maxRecDepth 100000 in
theorem wchurn (l : Launch) (D : va_G) (cI cC cT cL : ClassId) (hl0 : l.stackTraces = false) (x b0 : Nat) (A : Nat → Nat) (nc nt : Nat) (f g : Nat → Int32) (ob : Nat) (w : Nat → Int64)  : M0 l yL_churn wsL_churn ({ frames := 7, cells := 1, slots := 6, locals := 111 } : Room) D (TY cI cC cT cL) [.ref x, .ref ob] (YW cI cC cT x A b0 nc nt f g ++ OB cL ob w) (some (.int (nI (kChurn nc)))) (YW cI cC cT x A b0 (sel (kChurn nc) (nc + 1) nc) nt f g ++ OB cL ob (sel (kChurn nc) (vp_updL w 0 ((nI nc).toInt64)) w)) 1 6 := by
  refine M0_ofH (hh := [(0, 8, 11, 24)]) (cc := cL_churn) (maxL := 3) (ret := (some .int)) (by decide +kernel) rfl (Nat.le_of_ble_eq_true rfl) ?_
  intro p e s m args below meth c A0 B htab ls hl
  obtain ⟨hx, hb, hml, hr, hown, hts, hlocks, hK, hP, hD, hA, hST, hnm⟩ := B
  have hown : s.vm.findClass RL = some m.cls := hown
  have hS : va_S A0 s.heap s.heap [] := va_S.rf
  have hl : lv_has ls 3 [(0, .ref x), (1, .ref ob)] := hl
  refine lv_aload_n hx hb dL_churn_0 rfl (lv_at hl 1 rfl) ?_
  refine lv_iconst (v := 0) hx hb dL_churn_1 (by decide) ?_
  refine lv_aload_n hx hb dL_churn_2 rfl (lv_at hl 0 rfl) ?_
  refine c1_V (As := []) (rest := [.int 0, .ref ob]) ⟨hx, hb, hml, hown, hts⟩ (mX3_churn l D cI cC cT cL hl0 x b0 A nc nt f g ) (cwV 0 hts gL_churn_X3_churn rfl rfl rfl pX3_churn ⟨Nat.le_of_ble_eq_true rfl, Nat.le_of_ble_eq_true rfl⟩) hK hP hD hS hA hST (Jn_ywh) (Jn_ywh) 0 rfl rfl rfl rfl hl.1 rfl (Nat.le_of_ble_eq_true rfl) dL_churn_3 ⟨Nat.le_of_ble_eq_true rfl, Nat.le_of_ble_eq_true rfl⟩ rfl (fun E ce q9 H locs hE hP hS h1 h2 h3 => ?_) (fun hok H locs hP hD hS => ?_)
  ·
    rcases hE with ⟨hk, rfl⟩ | ⟨hk, rfl⟩ | ⟨hk, rfl⟩
    ·
      refine vx_catch hown [] ⟨0, 8, 11, 24⟩ [] (htab.trans rfl) (fun z hz => nomatch hz) (by decide) (by decide) (hts _ clL_churn_24) (va_Nw.use rfl (hST.2.2.2.2.1 _ (by simp [CA]))) h1 h2 h3 ?_
      refine lv_astore_n (lv' := [(2, .ref q9), (0, .ref x), (1, .ref ob)]) hx hb dL_churn_11 rfl hl (by decide) rfl (fun ls hl => ?_)
      refine lv_iconst (v := 1) hx hb dL_churn_12 (by decide) ?_
      exact e0_i hx hb hr hlocks (P_eq (by (rw [hk] <;> rfl)) hP) hS dL_churn_13 (by decide) (by decide) (by (rw [hk] <;> rfl))
    ·
      exact absurd hk (by intro hk; unfold kChurn at hk; (repeat' split at hk) <;> omega)
    ·
      exact absurd hk (by intro hk; unfold kChurn at hk; (repeat' split at hk) <;> omega)
  ·
    refine lv_i2l hx hb dL_churn_6 rfl ?_
    refine w_lst hx hb hK hP hD hS 16 3 rfl rfl 0 rfl (by decide) (by decide) (ws' := YW cI cC cT x A b0 (nc + 1) nt f g ++ OB cL ob (vp_updL w 0 ((nI nc).toInt64))) rfl dL_churn_7 (fun H locs hP hD hS => ?_)
    refine lv_goto (tgt := 14) hx hb dL_churn_8 (by decide) ?_
    refine lv_iconst (v := 0) hx hb dL_churn_14 (by decide) ?_
    exact e0_i hx hb hr hlocks (P_eq (by (rw [hok] <;> rfl)) hP) hS dL_churn_15 (by decide) (by decide) (by (rw [hok] <;> rfl))

set_option maxHeartbeats 4000000 in
set_option maxRecDepth 100000 in
theorem wtub (l : Launch) (D : va_G) (cI cC cT cL : ClassId) (hl0 : l.stackTraces = false) (x b0 : Nat) (A : Nat → Nat) (nc nt : Nat) (f g : Nat → Int32) (ob : Nat) (w : Nat → Int64)  : M0 l yL_tub wsL_tub ({ frames := 7, cells := 1, slots := 6, locals := 111 } : Room) D (TY cI cC cT cL) [.ref x, .ref ob] (YW cI cC cT x A b0 nc nt f g ++ OB cL ob w) (some (.int (nI (kTub nt)))) (YW cI cC cT x A b0 nc (sel (kTub nt) (nt + 1) nt) f g ++ OB cL ob (sel (kTub nt) (vp_updL w 0 ((nI nt).toInt64)) w)) 1 6 := by
  refine M0_ofH (hh := [(0, 8, 11, 24)]) (cc := cL_tub) (maxL := 3) (ret := (some .int)) (by decide +kernel) rfl (Nat.le_of_ble_eq_true rfl) ?_
  intro p e s m args below meth c A0 B htab ls hl
  obtain ⟨hx, hb, hml, hr, hown, hts, hlocks, hK, hP, hD, hA, hST, hnm⟩ := B
  have hown : s.vm.findClass RL = some m.cls := hown
  have hS : va_S A0 s.heap s.heap [] := va_S.rf
  have hl : lv_has ls 3 [(0, .ref x), (1, .ref ob)] := hl
  refine lv_aload_n hx hb dL_tub_0 rfl (lv_at hl 1 rfl) ?_
  refine lv_iconst (v := 0) hx hb dL_tub_1 (by decide) ?_
  refine lv_aload_n hx hb dL_tub_2 rfl (lv_at hl 0 rfl) ?_
  refine c1_V (As := []) (rest := [.int 0, .ref ob]) ⟨hx, hb, hml, hown, hts⟩ (mX3_tub l D cI cC cT cL hl0 x b0 A nc nt f g ) (cwV 0 hts gL_tub_X3_tub rfl rfl rfl pX3_tub ⟨Nat.le_of_ble_eq_true rfl, Nat.le_of_ble_eq_true rfl⟩) hK hP hD hS hA hST (Jn_ywh) (Jn_ywh) 0 rfl rfl rfl rfl hl.1 rfl (Nat.le_of_ble_eq_true rfl) dL_tub_3 ⟨Nat.le_of_ble_eq_true rfl, Nat.le_of_ble_eq_true rfl⟩ rfl (fun E ce q9 H locs hE hP hS h1 h2 h3 => ?_) (fun hok H locs hP hD hS => ?_)
  ·
    rcases hE with ⟨hk, rfl⟩ | ⟨hk, rfl⟩ | ⟨hk, rfl⟩
    ·
      refine vx_catch hown [] ⟨0, 8, 11, 24⟩ [] (htab.trans rfl) (fun z hz => nomatch hz) (by decide) (by decide) (hts _ clL_tub_24) (va_Nw.use rfl (hST.2.2.2.2.1 _ (by simp [CA]))) h1 h2 h3 ?_
      refine lv_astore_n (lv' := [(2, .ref q9), (0, .ref x), (1, .ref ob)]) hx hb dL_tub_11 rfl hl (by decide) rfl (fun ls hl => ?_)
      refine lv_iconst (v := 1) hx hb dL_tub_12 (by decide) ?_
      exact e0_i hx hb hr hlocks (P_eq (by (rw [hk] <;> rfl)) hP) hS dL_tub_13 (by decide) (by decide) (by (rw [hk] <;> rfl))
    ·
      exact absurd hk (by intro hk; unfold kTub at hk; (repeat' split at hk) <;> omega)
    ·
      exact absurd hk (by intro hk; unfold kTub at hk; (repeat' split at hk) <;> omega)
  ·
    refine lv_i2l hx hb dL_tub_6 rfl ?_
    refine w_lst hx hb hK hP hD hS 16 3 rfl rfl 0 rfl (by decide) (by decide) (ws' := YW cI cC cT x A b0 nc (nt + 1) f g ++ OB cL ob (vp_updL w 0 ((nI nt).toInt64))) rfl dL_tub_7 (fun H locs hP hD hS => ?_)
    refine lv_goto (tgt := 14) hx hb dL_tub_8 (by decide) ?_
    refine lv_iconst (v := 0) hx hb dL_tub_14 (by decide) ?_
    exact e0_i hx hb hr hlocks (P_eq (by (rw [hok] <;> rfl)) hP) hS dL_tub_15 (by decide) (by decide) (by (rw [hok] <;> rfl))

set_option maxHeartbeats 4000000 in
set_option maxRecDepth 100000 in
theorem wpack (l : Launch) (D : va_G) (cI cC cT cL : ClassId) (hl0 : l.stackTraces = false) (x b0 : Nat) (A : Nat → Nat) (nc nt : Nat) (f g : Nat → Int32) (ob : Nat) (w : Nat → Int64) (u v z : Int32) (hnc : nc ≤ 4) : M0 l yL_pack wsL_pack ({ frames := 8, cells := 4, slots := 24, locals := 135 } : Room) D (TY cI cC cT cL) [.ref x, .int u, .int v, .int z, .ref ob] (YW cI cC cT x A b0 nc nt f g ++ OB cL ob w) (some (.int (nI (kPack nc f u v z)))) (YW cI cC cT x A b0 nc nt (sel (kPack nc f u v z) (packF f u.toNatClampNeg v z) f) g ++ OB cL ob (sel (kPack nc f u v z) (vp_updL w 0 ((packF f u.toNatClampNeg v z (7 + 3 * u.toNatClampNeg)).toInt64)) w)) 4 24 := by
  refine M0_ofH (hh := [(0, 12, 15, 13), (0, 12, 19, 15), (0, 12, 23, 24)]) (cc := cL_pack) (maxL := 6) (ret := (some .int)) (by decide +kernel) rfl (Nat.le_of_ble_eq_true rfl) ?_
  intro p e s m args below meth c A0 B htab ls hl
  obtain ⟨hx, hb, hml, hr, hown, hts, hlocks, hK, hP, hD, hA, hST, hnm⟩ := B
  have hown : s.vm.findClass RL = some m.cls := hown
  have hS : va_S A0 s.heap s.heap [] := va_S.rf
  have hl : lv_has ls 6 [(0, .ref x), (1, .int u), (2, .int v), (3, .int z), (4, .ref ob)] := hl
  refine lv_aload hx hb dL_pack_0 (lv_at hl 4 rfl) ?_
  refine lv_iconst (v := 0) hx hb dL_pack_2 (by decide) ?_
  refine lv_aload_n hx hb dL_pack_3 rfl (lv_at hl 0 rfl) ?_
  refine lv_iload_n hx hb dL_pack_4 rfl (lv_at hl 1 rfl) ?_
  refine lv_iload_n hx hb dL_pack_5 rfl (lv_at hl 2 rfl) ?_
  refine lv_iload_n hx hb dL_pack_6 rfl (lv_at hl 3 rfl) ?_
  refine c1_V (As := [.int u, .int v, .int z]) (rest := [.int 0, .ref ob]) ⟨hx, hb, hml, hown, hts⟩ (mX3_pack l D cI cC cT cL hl0 x b0 A nc nt f g u v z hnc) (cwV 3 hts gL_pack_X3_pack rfl rfl rfl pX3_pack ⟨Nat.le_of_ble_eq_true rfl, Nat.le_of_ble_eq_true rfl⟩) hK hP hD hS hA hST (Jn_ywh) (Jn_ywh) 0 rfl rfl rfl rfl hl.1 rfl (Nat.le_of_ble_eq_true rfl) dL_pack_7 ⟨Nat.le_of_ble_eq_true rfl, Nat.le_of_ble_eq_true rfl⟩ rfl (fun E ce q9 H locs hE hP hS h1 h2 h3 => ?_) (fun hok H locs hP hD hS => ?_)
  ·
    rcases hE with ⟨hk, rfl⟩ | ⟨hk, rfl⟩ | ⟨hk, rfl⟩
    ·
      refine vx_catch hown [] ⟨0, 12, 15, 13⟩ [⟨0, 12, 19, 15⟩, ⟨0, 12, 23, 24⟩] (htab.trans rfl) (fun z hz => nomatch hz) (by decide) (by decide) (hts _ clL_pack_13) (va_Nw.use rfl (hST.2.2.2.2.1 _ (by simp [CA]))) h1 h2 h3 ?_
      refine lv_astore (lv' := [(5, .ref q9), (0, .ref x), (1, .int u), (2, .int v), (3, .int z), (4, .ref ob)]) hx hb dL_pack_15 hl (by decide) rfl (fun ls hl => ?_)
      refine lv_iconst (v := 1) hx hb dL_pack_17 (by decide) ?_
      exact e0_i hx hb hr hlocks (P_eq (by (rw [hk] <;> rfl)) hP) hS dL_pack_18 (by decide) (by decide) (by (rw [hk] <;> rfl))
    ·
      refine vx_catch hown [⟨0, 12, 15, 13⟩] ⟨0, 12, 19, 15⟩ [⟨0, 12, 23, 24⟩] (htab.trans rfl) (fun z hz => by rw [List.mem_singleton.mp hz]; exact Or.inr ⟨by decide, IOOBE, hts _ clL_pack_13, hST.2.2.2.1 _ (List.mem_of_getElem? (i := 2) rfl)⟩) (by decide) (by decide) (hts _ clL_pack_15) (va_Nw.use rfl (hST.2.2.2.2.1 _ (by simp [CA]))) h1 h2 h3 ?_
      refine lv_astore (lv' := [(5, .ref q9), (0, .ref x), (1, .int u), (2, .int v), (3, .int z), (4, .ref ob)]) hx hb dL_pack_19 hl (by decide) rfl (fun ls hl => ?_)
      refine lv_iconst (v := 2) hx hb dL_pack_21 (by decide) ?_
      exact e0_i hx hb hr hlocks (P_eq (by (rw [hk] <;> rfl)) hP) hS dL_pack_22 (by decide) (by decide) (by (rw [hk] <;> rfl))
    ·
      refine vx_catch hown [⟨0, 12, 15, 13⟩, ⟨0, 12, 19, 15⟩] ⟨0, 12, 23, 24⟩ [] (htab.trans rfl) (fun z hz => by exact (List.mem_cons.mp hz).elim (fun hz => by rw [hz]; exact Or.inr ⟨by decide, IOOBE, hts _ clL_pack_13, hST.2.2.2.1 _ (List.mem_of_getElem? (i := 4) rfl)⟩) (fun hz => by rw [List.mem_singleton.mp hz]; exact Or.inr ⟨by decide, IAE, hts _ clL_pack_15, hST.2.2.2.1 _ (List.mem_of_getElem? (i := 5) rfl)⟩)) (by decide) (by decide) (hts _ clL_pack_24) (va_Nw.use rfl (hST.2.2.2.2.1 _ (by simp [CA]))) h1 h2 h3 ?_
      refine lv_astore (lv' := [(5, .ref q9), (0, .ref x), (1, .int u), (2, .int v), (3, .int z), (4, .ref ob)]) hx hb dL_pack_23 hl (by decide) rfl (fun ls hl => ?_)
      refine lv_iconst (v := 3) hx hb dL_pack_25 (by decide) ?_
      exact e0_i hx hb hr hlocks (P_eq (by (rw [hk] <;> rfl)) hP) hS dL_pack_26 (by decide) (by decide) (by (rw [hk] <;> rfl))
  ·
    refine lv_i2l hx hb dL_pack_10 rfl ?_
    refine w_lst hx hb hK hP hD hS 16 3 rfl rfl 0 rfl (by decide) (by decide) (ws' := YW cI cC cT x A b0 nc nt (packF f u.toNatClampNeg v z) g ++ OB cL ob (vp_updL w 0 ((packF f u.toNatClampNeg v z (7 + 3 * u.toNatClampNeg)).toInt64))) rfl dL_pack_11 (fun H locs hP hD hS => ?_)
    refine lv_goto (tgt := 27) hx hb dL_pack_12 (by decide) ?_
    refine lv_iconst (v := 0) hx hb dL_pack_27 (by decide) ?_
    exact e0_i hx hb hr hlocks (P_eq (by (rw [hok] <;> rfl)) hP) hS dL_pack_28 (by decide) (by decide) (by (rw [hok] <;> rfl))

set_option maxHeartbeats 4000000 in
set_option maxRecDepth 100000 in
theorem wpour (l : Launch) (D : va_G) (cI cC cT cL : ClassId) (hl0 : l.stackTraces = false) (x b0 : Nat) (A : Nat → Nat) (nc nt : Nat) (f g : Nat → Int32) (ob : Nat) (w : Nat → Int64) (u v : Int32) (hnc : nc ≤ 4) : M0 l yL_pour wsL_pour ({ frames := 8, cells := 2, slots := 12, locals := 134 } : Room) D (TY cI cC cT cL) [.ref x, .int u, .int v, .ref ob] (YW cI cC cT x A b0 nc nt f g ++ OB cL ob w) (some (.int (nI (kPour nc f u v)))) (YW cI cC cT x A b0 nc nt (sel (kPour nc f u v) (pourF f u.toNatClampNeg v) f) g ++ OB cL ob (sel (kPour nc f u v) (vp_updL w 0 ((pourF f u.toNatClampNeg v (9 + 3 * u.toNatClampNeg)).toInt64)) w)) 2 12 := by
  refine M0_ofH (hh := [(0, 10, 13, 13), (0, 10, 17, 15), (0, 10, 21, 24)]) (cc := cL_pour) (maxL := 5) (ret := (some .int)) (by decide +kernel) rfl (Nat.le_of_ble_eq_true rfl) ?_
  intro p e s m args below meth c A0 B htab ls hl
  obtain ⟨hx, hb, hml, hr, hown, hts, hlocks, hK, hP, hD, hA, hST, hnm⟩ := B
  have hown : s.vm.findClass RL = some m.cls := hown
  have hS : va_S A0 s.heap s.heap [] := va_S.rf
  have hl : lv_has ls 5 [(0, .ref x), (1, .int u), (2, .int v), (3, .ref ob)] := hl
  refine lv_aload_n hx hb dL_pour_0 rfl (lv_at hl 3 rfl) ?_
  refine lv_iconst (v := 0) hx hb dL_pour_1 (by decide) ?_
  refine lv_aload_n hx hb dL_pour_2 rfl (lv_at hl 0 rfl) ?_
  refine lv_iload_n hx hb dL_pour_3 rfl (lv_at hl 1 rfl) ?_
  refine lv_iload_n hx hb dL_pour_4 rfl (lv_at hl 2 rfl) ?_
  refine c1_V (As := [.int u, .int v]) (rest := [.int 0, .ref ob]) ⟨hx, hb, hml, hown, hts⟩ (mX3_pour l D cI cC cT cL hl0 x b0 A nc nt f g u v hnc) (cwV 2 hts gL_pour_X3_pour rfl rfl rfl pX3_pour ⟨Nat.le_of_ble_eq_true rfl, Nat.le_of_ble_eq_true rfl⟩) hK hP hD hS hA hST (Jn_ywh) (Jn_ywh) 0 rfl rfl rfl rfl hl.1 rfl (Nat.le_of_ble_eq_true rfl) dL_pour_5 ⟨Nat.le_of_ble_eq_true rfl, Nat.le_of_ble_eq_true rfl⟩ rfl (fun E ce q9 H locs hE hP hS h1 h2 h3 => ?_) (fun hok H locs hP hD hS => ?_)
  ·
    rcases hE with ⟨hk, rfl⟩ | ⟨hk, rfl⟩ | ⟨hk, rfl⟩
    ·
      refine vx_catch hown [] ⟨0, 10, 13, 13⟩ [⟨0, 10, 17, 15⟩, ⟨0, 10, 21, 24⟩] (htab.trans rfl) (fun z hz => nomatch hz) (by decide) (by decide) (hts _ clL_pour_13) (va_Nw.use rfl (hST.2.2.2.2.1 _ (by simp [CA]))) h1 h2 h3 ?_
      refine lv_astore (lv' := [(4, .ref q9), (0, .ref x), (1, .int u), (2, .int v), (3, .ref ob)]) hx hb dL_pour_13 hl (by decide) rfl (fun ls hl => ?_)
      refine lv_iconst (v := 1) hx hb dL_pour_15 (by decide) ?_
      exact e0_i hx hb hr hlocks (P_eq (by (rw [hk] <;> rfl)) hP) hS dL_pour_16 (by decide) (by decide) (by (rw [hk] <;> rfl))
    ·
      refine vx_catch hown [⟨0, 10, 13, 13⟩] ⟨0, 10, 17, 15⟩ [⟨0, 10, 21, 24⟩] (htab.trans rfl) (fun z hz => by rw [List.mem_singleton.mp hz]; exact Or.inr ⟨by decide, IOOBE, hts _ clL_pour_13, hST.2.2.2.1 _ (List.mem_of_getElem? (i := 2) rfl)⟩) (by decide) (by decide) (hts _ clL_pour_15) (va_Nw.use rfl (hST.2.2.2.2.1 _ (by simp [CA]))) h1 h2 h3 ?_
      refine lv_astore (lv' := [(4, .ref q9), (0, .ref x), (1, .int u), (2, .int v), (3, .ref ob)]) hx hb dL_pour_17 hl (by decide) rfl (fun ls hl => ?_)
      refine lv_iconst (v := 2) hx hb dL_pour_19 (by decide) ?_
      exact e0_i hx hb hr hlocks (P_eq (by (rw [hk] <;> rfl)) hP) hS dL_pour_20 (by decide) (by decide) (by (rw [hk] <;> rfl))
    ·
      refine vx_catch hown [⟨0, 10, 13, 13⟩, ⟨0, 10, 17, 15⟩] ⟨0, 10, 21, 24⟩ [] (htab.trans rfl) (fun z hz => by exact (List.mem_cons.mp hz).elim (fun hz => by rw [hz]; exact Or.inr ⟨by decide, IOOBE, hts _ clL_pour_13, hST.2.2.2.1 _ (List.mem_of_getElem? (i := 4) rfl)⟩) (fun hz => by rw [List.mem_singleton.mp hz]; exact Or.inr ⟨by decide, IAE, hts _ clL_pour_15, hST.2.2.2.1 _ (List.mem_of_getElem? (i := 5) rfl)⟩)) (by decide) (by decide) (hts _ clL_pour_24) (va_Nw.use rfl (hST.2.2.2.2.1 _ (by simp [CA]))) h1 h2 h3 ?_
      refine lv_astore (lv' := [(4, .ref q9), (0, .ref x), (1, .int u), (2, .int v), (3, .ref ob)]) hx hb dL_pour_21 hl (by decide) rfl (fun ls hl => ?_)
      refine lv_iconst (v := 3) hx hb dL_pour_23 (by decide) ?_
      exact e0_i hx hb hr hlocks (P_eq (by (rw [hk] <;> rfl)) hP) hS dL_pour_24 (by decide) (by decide) (by (rw [hk] <;> rfl))
  ·
    refine lv_i2l hx hb dL_pour_8 rfl ?_
    refine w_lst hx hb hK hP hD hS 16 3 rfl rfl 0 rfl (by decide) (by decide) (ws' := YW cI cC cT x A b0 nc nt (pourF f u.toNatClampNeg v) g ++ OB cL ob (vp_updL w 0 ((pourF f u.toNatClampNeg v (9 + 3 * u.toNatClampNeg)).toInt64))) rfl dL_pour_9 (fun H locs hP hD hS => ?_)
    refine lv_goto (tgt := 25) hx hb dL_pour_10 (by decide) ?_
    refine lv_iconst (v := 0) hx hb dL_pour_25 (by decide) ?_
    exact e0_i hx hb hr hlocks (P_eq (by (rw [hok] <;> rfl)) hP) hS dL_pour_26 (by decide) (by decide) (by (rw [hok] <;> rfl))

set_option maxHeartbeats 4000000 in
set_option maxRecDepth 100000 in
theorem wscoop (l : Launch) (D : va_G) (cI cC cT cL : ClassId) (hl0 : l.stackTraces = false) (x b0 : Nat) (A : Nat → Nat) (nc nt : Nat) (f g : Nat → Int32) (ob : Nat) (w : Nat → Int64) (u v : Int32) (hnc : nc ≤ 4) (hnt : nt ≤ 6) : M0 l yL_scoop wsL_scoop ({ frames := 8, cells := 3, slots := 18, locals := 135 } : Room) D (TY cI cC cT cL) [.ref x, .int u, .int v, .ref ob] (YW cI cC cT x A b0 nc nt f g ++ OB cL ob w) (some (.int (nI (kScoop nc nt f u v)))) (YW cI cC cT x A b0 nc nt (sel (kScoop nc nt f u v) (scoopF f u.toNatClampNeg v.toNatClampNeg) f) g ++ OB cL ob (sel (kScoop nc nt f u v) (vp_updL w 0 ((scoopF f u.toNatClampNeg v.toNatClampNeg (19 + 3 * v.toNatClampNeg)).toInt64)) w)) 3 18 := by
  refine M0_ofH (hh := [(0, 10, 13, 13), (0, 10, 17, 24)]) (cc := cL_scoop) (maxL := 5) (ret := (some .int)) (by decide +kernel) rfl (Nat.le_of_ble_eq_true rfl) ?_
  intro p e s m args below meth c A0 B htab ls hl
  obtain ⟨hx, hb, hml, hr, hown, hts, hlocks, hK, hP, hD, hA, hST, hnm⟩ := B
  have hown : s.vm.findClass RL = some m.cls := hown
  have hS : va_S A0 s.heap s.heap [] := va_S.rf
  have hl : lv_has ls 5 [(0, .ref x), (1, .int u), (2, .int v), (3, .ref ob)] := hl
  refine lv_aload_n hx hb dL_scoop_0 rfl (lv_at hl 3 rfl) ?_
  refine lv_iconst (v := 0) hx hb dL_scoop_1 (by decide) ?_
  refine lv_aload_n hx hb dL_scoop_2 rfl (lv_at hl 0 rfl) ?_
  refine lv_iload_n hx hb dL_scoop_3 rfl (lv_at hl 1 rfl) ?_
  refine lv_iload_n hx hb dL_scoop_4 rfl (lv_at hl 2 rfl) ?_
  refine c1_V (As := [.int u, .int v]) (rest := [.int 0, .ref ob]) ⟨hx, hb, hml, hown, hts⟩ (mX3_scoop l D cI cC cT cL hl0 x b0 A nc nt f g u v hnc hnt) (cwV 2 hts gL_scoop_X3_scoop rfl rfl rfl pX3_scoop ⟨Nat.le_of_ble_eq_true rfl, Nat.le_of_ble_eq_true rfl⟩) hK hP hD hS hA hST (Jn_ywh) (Jn_ywh) 0 rfl rfl rfl rfl hl.1 rfl (Nat.le_of_ble_eq_true rfl) dL_scoop_5 ⟨Nat.le_of_ble_eq_true rfl, Nat.le_of_ble_eq_true rfl⟩ rfl (fun E ce q9 H locs hE hP hS h1 h2 h3 => ?_) (fun hok H locs hP hD hS => ?_)
  ·
    rcases hE with ⟨hk, rfl⟩ | ⟨hk, rfl⟩ | ⟨hk, rfl⟩
    ·
      refine vx_catch hown [] ⟨0, 10, 13, 13⟩ [⟨0, 10, 17, 24⟩] (htab.trans rfl) (fun z hz => nomatch hz) (by decide) (by decide) (hts _ clL_scoop_13) (va_Nw.use rfl (hST.2.2.2.2.1 _ (by simp [CA]))) h1 h2 h3 ?_
      refine lv_astore (lv' := [(4, .ref q9), (0, .ref x), (1, .int u), (2, .int v), (3, .ref ob)]) hx hb dL_scoop_13 hl (by decide) rfl (fun ls hl => ?_)
      refine lv_iconst (v := 1) hx hb dL_scoop_15 (by decide) ?_
      exact e0_i hx hb hr hlocks (P_eq (by (rw [hk] <;> rfl)) hP) hS dL_scoop_16 (by decide) (by decide) (by (rw [hk] <;> rfl))
    ·
      refine vx_catch hown [⟨0, 10, 13, 13⟩] ⟨0, 10, 17, 24⟩ [] (htab.trans rfl) (fun z hz => by rw [List.mem_singleton.mp hz]; exact Or.inr ⟨by decide, IOOBE, hts _ clL_scoop_13, hST.2.2.2.1 _ (List.mem_of_getElem? (i := 4) rfl)⟩) (by decide) (by decide) (hts _ clL_scoop_24) (va_Nw.use rfl (hST.2.2.2.2.1 _ (by simp [CA]))) h1 h2 h3 ?_
      refine lv_astore (lv' := [(4, .ref q9), (0, .ref x), (1, .int u), (2, .int v), (3, .ref ob)]) hx hb dL_scoop_17 hl (by decide) rfl (fun ls hl => ?_)
      refine lv_iconst (v := 2) hx hb dL_scoop_19 (by decide) ?_
      exact e0_i hx hb hr hlocks (P_eq (by (rw [hk] <;> rfl)) hP) hS dL_scoop_20 (by decide) (by decide) (by (rw [hk] <;> rfl))
    ·
      exact absurd hk (by intro hk; unfold kScoop at hk; (repeat' split at hk) <;> omega)
  ·
    refine lv_i2l hx hb dL_scoop_8 rfl ?_
    refine w_lst hx hb hK hP hD hS 16 3 rfl rfl 0 rfl (by decide) (by decide) (ws' := YW cI cC cT x A b0 nc nt (scoopF f u.toNatClampNeg v.toNatClampNeg) g ++ OB cL ob (vp_updL w 0 ((scoopF f u.toNatClampNeg v.toNatClampNeg (19 + 3 * v.toNatClampNeg)).toInt64))) rfl dL_scoop_9 (fun H locs hP hD hS => ?_)
    refine lv_goto (tgt := 21) hx hb dL_scoop_10 (by decide) ?_
    refine lv_iconst (v := 0) hx hb dL_scoop_21 (by decide) ?_
    exact e0_i hx hb hr hlocks (P_eq (by (rw [hok] <;> rfl)) hP) hS dL_scoop_22 (by decide) (by decide) (by (rw [hok] <;> rfl))

set_option maxHeartbeats 4000000 in
set_option maxRecDepth 100000 in
theorem wtold (l : Launch) (D : va_G) (cI cC cT cL : ClassId) (hl0 : l.stackTraces = false) (x b0 : Nat) (A : Nat → Nat) (nc nt : Nat) (f g : Nat → Int32) (ob : Nat) (w : Nat → Int64) (u v : Int32) (hnc : nc ≤ 4) : M0 l yL_told wsL_told ({ frames := 8, cells := 2, slots := 12, locals := 134 } : Room) D (TY cI cC cT cL) [.ref x, .int u, .int v, .ref ob] (YW cI cC cT x A b0 nc nt f g ++ OB cL ob w) (some (.int (nI (kTold nc u v)))) (YW cI cC cT x A b0 nc nt f g ++ OB cL ob (sel (kTold nc u v) (vp_updL w 0 ((pick3 v.toNatClampNeg (f (7 + 3 * u.toNatClampNeg)) (f (8 + 3 * u.toNatClampNeg)) (f (9 + 3 * u.toNatClampNeg))).toInt64)) w)) 2 12 := by
  refine M0_ofH (hh := [(0, 10, 13, 13)]) (cc := cL_told) (maxL := 5) (ret := (some .int)) (by decide +kernel) rfl (Nat.le_of_ble_eq_true rfl) ?_
  intro p e s m args below meth c A0 B htab ls hl
  obtain ⟨hx, hb, hml, hr, hown, hts, hlocks, hK, hP, hD, hA, hST, hnm⟩ := B
  have hown : s.vm.findClass RL = some m.cls := hown
  have hS : va_S A0 s.heap s.heap [] := va_S.rf
  have hl : lv_has ls 5 [(0, .ref x), (1, .int u), (2, .int v), (3, .ref ob)] := hl
  refine lv_aload_n hx hb dL_told_0 rfl (lv_at hl 3 rfl) ?_
  refine lv_iconst (v := 0) hx hb dL_told_1 (by decide) ?_
  refine lv_aload_n hx hb dL_told_2 rfl (lv_at hl 0 rfl) ?_
  refine lv_iload_n hx hb dL_told_3 rfl (lv_at hl 1 rfl) ?_
  refine lv_iload_n hx hb dL_told_4 rfl (lv_at hl 2 rfl) ?_
  refine c1_V (As := [.int u, .int v]) (rest := [.int 0, .ref ob]) ⟨hx, hb, hml, hown, hts⟩ (mX3_told l D cI cC cT cL hl0 x b0 A nc nt f g u v hnc) (cwV 2 hts gL_told_X3_told rfl rfl rfl pX3_told ⟨Nat.le_of_ble_eq_true rfl, Nat.le_of_ble_eq_true rfl⟩) hK hP hD hS hA hST (Jn_ywh) (Jn_ywh) 0 rfl rfl rfl rfl hl.1 rfl (Nat.le_of_ble_eq_true rfl) dL_told_5 ⟨Nat.le_of_ble_eq_true rfl, Nat.le_of_ble_eq_true rfl⟩ rfl (fun E ce q9 H locs hE hP hS h1 h2 h3 => ?_) (fun hok H locs hP hD hS => ?_)
  ·
    rcases hE with ⟨hk, rfl⟩ | ⟨hk, rfl⟩ | ⟨hk, rfl⟩
    ·
      refine vx_catch hown [] ⟨0, 10, 13, 13⟩ [] (htab.trans rfl) (fun z hz => nomatch hz) (by decide) (by decide) (hts _ clL_told_13) (va_Nw.use rfl (hST.2.2.2.2.1 _ (by simp [CA]))) h1 h2 h3 ?_
      refine lv_astore (lv' := [(4, .ref q9), (0, .ref x), (1, .int u), (2, .int v), (3, .ref ob)]) hx hb dL_told_13 hl (by decide) rfl (fun ls hl => ?_)
      refine lv_iconst (v := 1) hx hb dL_told_15 (by decide) ?_
      exact e0_i hx hb hr hlocks (P_eq (by (rw [hk] <;> rfl)) hP) hS dL_told_16 (by decide) (by decide) (by (rw [hk] <;> rfl))
    ·
      exact absurd hk (by intro hk; unfold kTold at hk; (repeat' split at hk) <;> omega)
    ·
      exact absurd hk (by intro hk; unfold kTold at hk; (repeat' split at hk) <;> omega)
  ·
    refine lv_i2l hx hb dL_told_8 rfl ?_
    refine w_lst hx hb hK hP hD hS 16 3 rfl rfl 0 rfl (by decide) (by decide) (ws' := YW cI cC cT x A b0 nc nt f g ++ OB cL ob (vp_updL w 0 ((pick3 v.toNatClampNeg (f (7 + 3 * u.toNatClampNeg)) (f (8 + 3 * u.toNatClampNeg)) (f (9 + 3 * u.toNatClampNeg))).toInt64))) rfl dL_told_9 (fun H locs hP hD hS => ?_)
    refine lv_goto (tgt := 17) hx hb dL_told_10 (by decide) ?_
    refine lv_iconst (v := 0) hx hb dL_told_17 (by decide) ?_
    exact e0_i hx hb hr hlocks (P_eq (by (rw [hok] <;> rfl)) hP) hS dL_told_18 (by decide) (by decide) (by (rw [hok] <;> rfl))

set_option maxHeartbeats 4000000 in
set_option maxRecDepth 100000 in
theorem wabout (l : Launch) (D : va_G) (cI cC cT cL : ClassId) (hl0 : l.stackTraces = false) (x b0 : Nat) (A : Nat → Nat) (nc nt : Nat) (f g : Nat → Int32) (ob : Nat) (w : Nat → Int64) (u v : Int32) (hnt : nt ≤ 6) : M0 l yL_about wsL_about ({ frames := 8, cells := 2, slots := 12, locals := 134 } : Room) D (TY cI cC cT cL) [.ref x, .int u, .int v, .ref ob] (YW cI cC cT x A b0 nc nt f g ++ OB cL ob w) (some (.int (nI (kTold nt u v)))) (YW cI cC cT x A b0 nc nt f g ++ OB cL ob (sel (kTold nt u v) (vp_updL w 0 ((pick3 v.toNatClampNeg (f (19 + 3 * u.toNatClampNeg)) (f (20 + 3 * u.toNatClampNeg)) (f (21 + 3 * u.toNatClampNeg))).toInt64)) w)) 2 12 := by
  refine M0_ofH (hh := [(0, 10, 13, 13)]) (cc := cL_about) (maxL := 5) (ret := (some .int)) (by decide +kernel) rfl (Nat.le_of_ble_eq_true rfl) ?_
  intro p e s m args below meth c A0 B htab ls hl
  obtain ⟨hx, hb, hml, hr, hown, hts, hlocks, hK, hP, hD, hA, hST, hnm⟩ := B
  have hown : s.vm.findClass RL = some m.cls := hown
  have hS : va_S A0 s.heap s.heap [] := va_S.rf
  have hl : lv_has ls 5 [(0, .ref x), (1, .int u), (2, .int v), (3, .ref ob)] := hl
  refine lv_aload_n hx hb dL_about_0 rfl (lv_at hl 3 rfl) ?_
  refine lv_iconst (v := 0) hx hb dL_about_1 (by decide) ?_
  refine lv_aload_n hx hb dL_about_2 rfl (lv_at hl 0 rfl) ?_
  refine lv_iload_n hx hb dL_about_3 rfl (lv_at hl 1 rfl) ?_
  refine lv_iload_n hx hb dL_about_4 rfl (lv_at hl 2 rfl) ?_
  refine c1_V (As := [.int u, .int v]) (rest := [.int 0, .ref ob]) ⟨hx, hb, hml, hown, hts⟩ (mX3_about l D cI cC cT cL hl0 x b0 A nc nt f g u v hnt) (cwV 2 hts gL_about_X3_about rfl rfl rfl pX3_about ⟨Nat.le_of_ble_eq_true rfl, Nat.le_of_ble_eq_true rfl⟩) hK hP hD hS hA hST (Jn_ywh) (Jn_ywh) 0 rfl rfl rfl rfl hl.1 rfl (Nat.le_of_ble_eq_true rfl) dL_about_5 ⟨Nat.le_of_ble_eq_true rfl, Nat.le_of_ble_eq_true rfl⟩ rfl (fun E ce q9 H locs hE hP hS h1 h2 h3 => ?_) (fun hok H locs hP hD hS => ?_)
  ·
    rcases hE with ⟨hk, rfl⟩ | ⟨hk, rfl⟩ | ⟨hk, rfl⟩
    ·
      refine vx_catch hown [] ⟨0, 10, 13, 13⟩ [] (htab.trans rfl) (fun z hz => nomatch hz) (by decide) (by decide) (hts _ clL_about_13) (va_Nw.use rfl (hST.2.2.2.2.1 _ (by simp [CA]))) h1 h2 h3 ?_
      refine lv_astore (lv' := [(4, .ref q9), (0, .ref x), (1, .int u), (2, .int v), (3, .ref ob)]) hx hb dL_about_13 hl (by decide) rfl (fun ls hl => ?_)
      refine lv_iconst (v := 1) hx hb dL_about_15 (by decide) ?_
      exact e0_i hx hb hr hlocks (P_eq (by (rw [hk] <;> rfl)) hP) hS dL_about_16 (by decide) (by decide) (by (rw [hk] <;> rfl))
    ·
      exact absurd hk (by intro hk; unfold kTold at hk; (repeat' split at hk) <;> omega)
    ·
      exact absurd hk (by intro hk; unfold kTold at hk; (repeat' split at hk) <;> omega)
  ·
    refine lv_i2l hx hb dL_about_8 rfl ?_
    refine w_lst hx hb hK hP hD hS 16 3 rfl rfl 0 rfl (by decide) (by decide) (ws' := YW cI cC cT x A b0 nc nt f g ++ OB cL ob (vp_updL w 0 ((pick3 v.toNatClampNeg (f (19 + 3 * u.toNatClampNeg)) (f (20 + 3 * u.toNatClampNeg)) (f (21 + 3 * u.toNatClampNeg))).toInt64))) rfl dL_about_9 (fun H locs hP hD hS => ?_)
    refine lv_goto (tgt := 17) hx hb dL_about_10 (by decide) ?_
    refine lv_iconst (v := 0) hx hb dL_about_17 (by decide) ?_
    exact e0_i hx hb hr hlocks (P_eq (by (rw [hok] <;> rfl)) hP) hS dL_about_18 (by decide) (by decide) (by (rw [hok] <;> rfl))

set_option maxHeartbeats 4000000 in
set_option maxRecDepth 100000 in
theorem wcount (l : Launch) (D : va_G) (cI cC cT cL : ClassId) (hl0 : l.stackTraces = false) (x b0 : Nat) (A : Nat → Nat) (nc nt : Nat) (f g : Nat → Int32) (ob : Nat) (w : Nat → Int64) (u : Int32) (hnt : nt ≤ 6) (h : Nat) (hh : h < 2 ^ 29) (h0 : f 0 = nI h) : M0 l yL_count wsL_count ({ frames := 7, cells := 1, slots := 6, locals := 111 } : Room) D (TY cI cC cT cL) [.ref x, .int u, .ref ob] (YW cI cC cT x A b0 nc nt f g ++ OB cL ob w) (some (.int (nI (kCount u)))) (YW cI cC cT x A b0 nc nt f g ++ OB cL ob (sel (kCount u) (vp_updL w 0 ((cntF nt f g u.toNatClampNeg).toInt64)) w)) 1 6 := by
  refine M0_ofH (hh := [(0, 9, 12, 13)]) (cc := cL_count) (maxL := 4) (ret := (some .int)) (by decide +kernel) rfl (Nat.le_of_ble_eq_true rfl) ?_
  intro p e s m args below meth c A0 B htab ls hl
  obtain ⟨hx, hb, hml, hr, hown, hts, hlocks, hK, hP, hD, hA, hST, hnm⟩ := B
  have hown : s.vm.findClass RL = some m.cls := hown
  have hS : va_S A0 s.heap s.heap [] := va_S.rf
  have hl : lv_has ls 4 [(0, .ref x), (1, .int u), (2, .ref ob)] := hl
  refine lv_aload_n hx hb dL_count_0 rfl (lv_at hl 2 rfl) ?_
  refine lv_iconst (v := 0) hx hb dL_count_1 (by decide) ?_
  refine lv_aload_n hx hb dL_count_2 rfl (lv_at hl 0 rfl) ?_
  refine lv_iload_n hx hb dL_count_3 rfl (lv_at hl 1 rfl) ?_
  refine c1_V (As := [.int u]) (rest := [.int 0, .ref ob]) ⟨hx, hb, hml, hown, hts⟩ (mX3_count l D cI cC cT cL hl0 x b0 A nc nt f g u hnt h hh h0) (cwV 1 hts gL_count_X3_count rfl rfl rfl pX3_count ⟨Nat.le_of_ble_eq_true rfl, Nat.le_of_ble_eq_true rfl⟩) hK hP hD hS hA hST (Jn_ywh) (Jn_ywh) 0 rfl rfl rfl rfl hl.1 rfl (Nat.le_of_ble_eq_true rfl) dL_count_4 ⟨Nat.le_of_ble_eq_true rfl, Nat.le_of_ble_eq_true rfl⟩ rfl (fun E ce q9 H locs hE hP hS h1 h2 h3 => ?_) (fun hok H locs hP hD hS => ?_)
  ·
    rcases hE with ⟨hk, rfl⟩ | ⟨hk, rfl⟩ | ⟨hk, rfl⟩
    ·
      refine vx_catch hown [] ⟨0, 9, 12, 13⟩ [] (htab.trans rfl) (fun z hz => nomatch hz) (by decide) (by decide) (hts _ clL_count_13) (va_Nw.use rfl (hST.2.2.2.2.1 _ (by simp [CA]))) h1 h2 h3 ?_
      refine lv_astore_n (lv' := [(3, .ref q9), (0, .ref x), (1, .int u), (2, .ref ob)]) hx hb dL_count_12 rfl hl (by decide) rfl (fun ls hl => ?_)
      refine lv_iconst (v := 1) hx hb dL_count_13 (by decide) ?_
      exact e0_i hx hb hr hlocks (P_eq (by (rw [hk] <;> rfl)) hP) hS dL_count_14 (by decide) (by decide) (by (rw [hk] <;> rfl))
    ·
      exact absurd hk (by intro hk; unfold kCount at hk; (repeat' split at hk) <;> omega)
    ·
      exact absurd hk (by intro hk; unfold kCount at hk; (repeat' split at hk) <;> omega)
  ·
    refine lv_i2l hx hb dL_count_7 rfl ?_
    refine w_lst hx hb hK hP hD hS 16 3 rfl rfl 0 rfl (by decide) (by decide) (ws' := YW cI cC cT x A b0 nc nt f g ++ OB cL ob (vp_updL w 0 ((cntF nt f g u.toNatClampNeg).toInt64))) rfl dL_count_8 (fun H locs hP hD hS => ?_)
    refine lv_goto (tgt := 15) hx hb dL_count_9 (by decide) ?_
    refine lv_iconst (v := 0) hx hb dL_count_15 (by decide) ?_
    exact e0_i hx hb hr hlocks (P_eq (by (rw [hok] <;> rfl)) hP) hS dL_count_16 (by decide) (by decide) (by (rw [hok] <;> rfl))

set_option maxHeartbeats 4000000 in
set_option maxRecDepth 100000 in
theorem wpass (l : Launch) (D : va_G) (cI cC cT cL : ClassId) (hl0 : l.stackTraces = false) (x b0 : Nat) (A : Nat → Nat) (nc nt : Nat) (f g : Nat → Int32) (ob : Nat) (w : Nat → Int64) (u : Int32) (hnc : nc ≤ 4) (hnt : nt ≤ 6) (hI : Inv f) (hg : Gd g) (h : Nat) (hh : h < 2 ^ 29) (h0 : f 0 = nI h) : M0 l yL_pass wsL_pass ({ frames := 8, cells := 1, slots := 6, locals := 134 } : Room) D (TY cI cC cT cL) [.ref x, .int u, .ref ob] (YW cI cC cT x A b0 nc nt f g ++ OB cL ob w) (some (.int (nI (kPass u)))) (YW cI cC cT x A b0 nc nt (sel (kPass u) (rep (hourF nc nt g) u.toNatClampNeg f) f) g ++ OB cL ob (sel (kPass u) (vp_updL w 0 ((rep (hourF nc nt g) u.toNatClampNeg f 5 - f 5).toInt64)) w)) 1 6 := by
  refine M0_ofH (hh := [(0, 9, 12, 15)]) (cc := cL_pass) (maxL := 4) (ret := (some .int)) (by decide +kernel) rfl (Nat.le_of_ble_eq_true rfl) ?_
  intro p e s m args below meth c A0 B htab ls hl
  obtain ⟨hx, hb, hml, hr, hown, hts, hlocks, hK, hP, hD, hA, hST, hnm⟩ := B
  have hown : s.vm.findClass RL = some m.cls := hown
  have hS : va_S A0 s.heap s.heap [] := va_S.rf
  have hl : lv_has ls 4 [(0, .ref x), (1, .int u), (2, .ref ob)] := hl
  refine lv_aload_n hx hb dL_pass_0 rfl (lv_at hl 2 rfl) ?_
  refine lv_iconst (v := 0) hx hb dL_pass_1 (by decide) ?_
  refine lv_aload_n hx hb dL_pass_2 rfl (lv_at hl 0 rfl) ?_
  refine lv_iload_n hx hb dL_pass_3 rfl (lv_at hl 1 rfl) ?_
  refine c1_V (As := [.int u]) (rest := [.int 0, .ref ob]) ⟨hx, hb, hml, hown, hts⟩ (mX3_pass l D cI cC cT cL hl0 x b0 A nc nt f g u hnc hnt hI hg h hh h0) (cwV 1 hts gL_pass_X3_pass rfl rfl rfl pX3_pass ⟨Nat.le_of_ble_eq_true rfl, Nat.le_of_ble_eq_true rfl⟩) hK hP hD hS hA hST (Jn_ywh) (Jn_ywh) 0 rfl rfl rfl rfl hl.1 rfl (Nat.le_of_ble_eq_true rfl) dL_pass_4 ⟨Nat.le_of_ble_eq_true rfl, Nat.le_of_ble_eq_true rfl⟩ rfl (fun E ce q9 H locs hE hP hS h1 h2 h3 => ?_) (fun hok H locs hP hD hS => ?_)
  ·
    rcases hE with ⟨hk, rfl⟩ | ⟨hk, rfl⟩ | ⟨hk, rfl⟩
    ·
      refine vx_catch hown [] ⟨0, 9, 12, 15⟩ [] (htab.trans rfl) (fun z hz => nomatch hz) (by decide) (by decide) (hts _ clL_pass_15) (va_Nw.use rfl (hST.2.2.2.2.1 _ (by simp [CA]))) h1 h2 h3 ?_
      refine lv_astore_n (lv' := [(3, .ref q9), (0, .ref x), (1, .int u), (2, .ref ob)]) hx hb dL_pass_12 rfl hl (by decide) rfl (fun ls hl => ?_)
      refine lv_iconst (v := 1) hx hb dL_pass_13 (by decide) ?_
      exact e0_i hx hb hr hlocks (P_eq (by (rw [hk] <;> rfl)) hP) hS dL_pass_14 (by decide) (by decide) (by (rw [hk] <;> rfl))
    ·
      exact absurd hk (by intro hk; unfold kPass at hk; (repeat' split at hk) <;> omega)
    ·
      exact absurd hk (by intro hk; unfold kPass at hk; (repeat' split at hk) <;> omega)
  ·
    refine lv_i2l hx hb dL_pass_7 rfl ?_
    refine w_lst hx hb hK hP hD hS 16 3 rfl rfl 0 rfl (by decide) (by decide) (ws' := YW cI cC cT x A b0 nc nt (rep (hourF nc nt g) u.toNatClampNeg f) g ++ OB cL ob (vp_updL w 0 ((rep (hourF nc nt g) u.toNatClampNeg f 5 - f 5).toInt64))) rfl dL_pass_8 (fun H locs hP hD hS => ?_)
    refine lv_goto (tgt := 15) hx hb dL_pass_9 (by decide) ?_
    refine lv_iconst (v := 0) hx hb dL_pass_15 (by decide) ?_
    exact e0_i hx hb hr hlocks (P_eq (by (rw [hok] <;> rfl)) hP) hS dL_pass_16 (by decide) (by decide) (by (rw [hok] <;> rfl))

set_option maxHeartbeats 4000000 in
set_option maxRecDepth 100000 in
theorem wdone (l : Launch) (D : va_G) (cI cC cT cL : ClassId) (hl0 : l.stackTraces = false) (x b0 : Nat) (A : Nat → Nat) (nc nt : Nat) (f g : Nat → Int32) (ob : Nat) (w : Nat → Int64) (u : Int32) (hnc : nc ≤ 4) (h : Nat) (hh : h < 2 ^ 29) (h0 : f 0 = nI h) : M0 l yL_done wsL_done ({ frames := 8, cells := 1, slots := 6, locals := 132 } : Room) D (TY cI cC cT cL) [.ref x, .int u, .ref ob] (YW cI cC cT x A b0 nc nt f g ++ OB cL ob w) (some (.int (nI (kDone nc u)))) (YW cI cC cT x A b0 nc nt f g ++ OB cL ob (sel (kDone nc u) (vp_updL w 0 ((doneC f g h u.toNatClampNeg).toInt64)) w)) 1 6 := by
  refine M0_ofH (hh := [(0, 9, 12, 13)]) (cc := cL_done) (maxL := 4) (ret := (some .int)) (by decide +kernel) rfl (Nat.le_of_ble_eq_true rfl) ?_
  intro p e s m args below meth c A0 B htab ls hl
  obtain ⟨hx, hb, hml, hr, hown, hts, hlocks, hK, hP, hD, hA, hST, hnm⟩ := B
  have hown : s.vm.findClass RL = some m.cls := hown
  have hS : va_S A0 s.heap s.heap [] := va_S.rf
  have hl : lv_has ls 4 [(0, .ref x), (1, .int u), (2, .ref ob)] := hl
  refine lv_aload_n hx hb dL_done_0 rfl (lv_at hl 2 rfl) ?_
  refine lv_iconst (v := 0) hx hb dL_done_1 (by decide) ?_
  refine lv_aload_n hx hb dL_done_2 rfl (lv_at hl 0 rfl) ?_
  refine lv_iload_n hx hb dL_done_3 rfl (lv_at hl 1 rfl) ?_
  refine c1_V (As := [.int u]) (rest := [.int 0, .ref ob]) ⟨hx, hb, hml, hown, hts⟩ (mX3_done l D cI cC cT cL hl0 x b0 A nc nt f g u hnc h hh h0) (cwV 1 hts gL_done_X3_done rfl rfl rfl pX3_done ⟨Nat.le_of_ble_eq_true rfl, Nat.le_of_ble_eq_true rfl⟩) hK hP hD hS hA hST (Jn_ywh) (Jn_ywh) 0 rfl rfl rfl rfl hl.1 rfl (Nat.le_of_ble_eq_true rfl) dL_done_4 ⟨Nat.le_of_ble_eq_true rfl, Nat.le_of_ble_eq_true rfl⟩ rfl (fun E ce q9 H locs hE hP hS h1 h2 h3 => ?_) (fun hok H locs hP hD hS => ?_)
  ·
    rcases hE with ⟨hk, rfl⟩ | ⟨hk, rfl⟩ | ⟨hk, rfl⟩
    ·
      refine vx_catch hown [] ⟨0, 9, 12, 13⟩ [] (htab.trans rfl) (fun z hz => nomatch hz) (by decide) (by decide) (hts _ clL_done_13) (va_Nw.use rfl (hST.2.2.2.2.1 _ (by simp [CA]))) h1 h2 h3 ?_
      refine lv_astore_n (lv' := [(3, .ref q9), (0, .ref x), (1, .int u), (2, .ref ob)]) hx hb dL_done_12 rfl hl (by decide) rfl (fun ls hl => ?_)
      refine lv_iconst (v := 1) hx hb dL_done_13 (by decide) ?_
      exact e0_i hx hb hr hlocks (P_eq (by (rw [hk] <;> rfl)) hP) hS dL_done_14 (by decide) (by decide) (by (rw [hk] <;> rfl))
    ·
      exact absurd hk (by intro hk; unfold kDone at hk; (repeat' split at hk) <;> omega)
    ·
      exact absurd hk (by intro hk; unfold kDone at hk; (repeat' split at hk) <;> omega)
  ·
    refine lv_i2l hx hb dL_done_7 rfl ?_
    refine w_lst hx hb hK hP hD hS 16 3 rfl rfl 0 rfl (by decide) (by decide) (ws' := YW cI cC cT x A b0 nc nt f g ++ OB cL ob (vp_updL w 0 ((doneC f g h u.toNatClampNeg).toInt64))) rfl dL_done_8 (fun H locs hP hD hS => ?_)
    refine lv_goto (tgt := 15) hx hb dL_done_9 (by decide) ?_
    refine lv_iconst (v := 0) hx hb dL_done_15 (by decide) ?_
    exact e0_i hx hb hr hlocks (P_eq (by (rw [hok] <;> rfl)) hP) hS dL_done_16 (by decide) (by decide) (by (rw [hok] <;> rfl))

set_option maxHeartbeats 4000000 in
set_option maxRecDepth 100000 in
theorem wsalt (l : Launch) (D : va_G) (cI cC cT cL : ClassId) (hl0 : l.stackTraces = false) (x b0 : Nat) (A : Nat → Nat) (nc nt : Nat) (f g : Nat → Int32) (ob : Nat) (w : Nat → Int64) (u v : Int32) (hnc : nc ≤ 4) : M0 l yL_salt wsL_salt ({ frames := 8, cells := 2, slots := 12, locals := 136 } : Room) D (TY cI cC cT cL) [.ref x, .int u, .int v, .ref ob] (YW cI cC cT x A b0 nc nt f g ++ OB cL ob w) (some (.int (nI (kSalt nc u v)))) (YW cI cC cT x A b0 nc nt f g ++ OB cL ob (sel (kSalt nc u v) (vp_updL w 0 ((saltR f u.toNatClampNeg v).toInt64)) w)) 2 12 := by
  refine M0_ofH (hh := [(0, 10, 13, 13), (0, 10, 17, 15)]) (cc := cL_salt) (maxL := 5) (ret := (some .int)) (by decide +kernel) rfl (Nat.le_of_ble_eq_true rfl) ?_
  intro p e s m args below meth c A0 B htab ls hl
  obtain ⟨hx, hb, hml, hr, hown, hts, hlocks, hK, hP, hD, hA, hST, hnm⟩ := B
  have hown : s.vm.findClass RL = some m.cls := hown
  have hS : va_S A0 s.heap s.heap [] := va_S.rf
  have hl : lv_has ls 5 [(0, .ref x), (1, .int u), (2, .int v), (3, .ref ob)] := hl
  refine lv_aload_n hx hb dL_salt_0 rfl (lv_at hl 3 rfl) ?_
  refine lv_iconst (v := 0) hx hb dL_salt_1 (by decide) ?_
  refine lv_aload_n hx hb dL_salt_2 rfl (lv_at hl 0 rfl) ?_
  refine lv_iload_n hx hb dL_salt_3 rfl (lv_at hl 1 rfl) ?_
  refine lv_iload_n hx hb dL_salt_4 rfl (lv_at hl 2 rfl) ?_
  refine c1_V (As := [.int u, .int v]) (rest := [.int 0, .ref ob]) ⟨hx, hb, hml, hown, hts⟩ (mX3_salt l D cI cC cT cL hl0 x b0 A nc nt f g u v hnc) (cwV 2 hts gL_salt_X3_salt rfl rfl rfl pX3_salt ⟨Nat.le_of_ble_eq_true rfl, Nat.le_of_ble_eq_true rfl⟩) hK hP hD hS hA hST (Jn_ywh) (Jn_ywh) 0 rfl rfl rfl rfl hl.1 rfl (Nat.le_of_ble_eq_true rfl) dL_salt_5 ⟨Nat.le_of_ble_eq_true rfl, Nat.le_of_ble_eq_true rfl⟩ rfl (fun E ce q9 H locs hE hP hS h1 h2 h3 => ?_) (fun hok H locs hP hD hS => ?_)
  ·
    rcases hE with ⟨hk, rfl⟩ | ⟨hk, rfl⟩ | ⟨hk, rfl⟩
    ·
      refine vx_catch hown [] ⟨0, 10, 13, 13⟩ [⟨0, 10, 17, 15⟩] (htab.trans rfl) (fun z hz => nomatch hz) (by decide) (by decide) (hts _ clL_salt_13) (va_Nw.use rfl (hST.2.2.2.2.1 _ (by simp [CA]))) h1 h2 h3 ?_
      refine lv_astore (lv' := [(4, .ref q9), (0, .ref x), (1, .int u), (2, .int v), (3, .ref ob)]) hx hb dL_salt_13 hl (by decide) rfl (fun ls hl => ?_)
      refine lv_iconst (v := 1) hx hb dL_salt_15 (by decide) ?_
      exact e0_i hx hb hr hlocks (P_eq (by (rw [hk] <;> rfl)) hP) hS dL_salt_16 (by decide) (by decide) (by (rw [hk] <;> rfl))
    ·
      refine vx_catch hown [⟨0, 10, 13, 13⟩] ⟨0, 10, 17, 15⟩ [] (htab.trans rfl) (fun z hz => by rw [List.mem_singleton.mp hz]; exact Or.inr ⟨by decide, IOOBE, hts _ clL_salt_13, hST.2.2.2.1 _ (List.mem_of_getElem? (i := 2) rfl)⟩) (by decide) (by decide) (hts _ clL_salt_15) (va_Nw.use rfl (hST.2.2.2.2.1 _ (by simp [CA]))) h1 h2 h3 ?_
      refine lv_astore (lv' := [(4, .ref q9), (0, .ref x), (1, .int u), (2, .int v), (3, .ref ob)]) hx hb dL_salt_17 hl (by decide) rfl (fun ls hl => ?_)
      refine lv_iconst (v := 2) hx hb dL_salt_19 (by decide) ?_
      exact e0_i hx hb hr hlocks (P_eq (by (rw [hk] <;> rfl)) hP) hS dL_salt_20 (by decide) (by decide) (by (rw [hk] <;> rfl))
    ·
      exact absurd hk (by intro hk; unfold kSalt at hk; (repeat' split at hk) <;> omega)
  ·
    refine lv_i2l hx hb dL_salt_8 rfl ?_
    refine w_lst hx hb hK hP hD hS 16 3 rfl rfl 0 rfl (by decide) (by decide) (ws' := YW cI cC cT x A b0 nc nt f g ++ OB cL ob (vp_updL w 0 ((saltR f u.toNatClampNeg v).toInt64))) rfl dL_salt_9 (fun H locs hP hD hS => ?_)
    refine lv_goto (tgt := 21) hx hb dL_salt_10 (by decide) ?_
    refine lv_iconst (v := 0) hx hb dL_salt_21 (by decide) ?_
    exact e0_i hx hb hr hlocks (P_eq (by (rw [hok] <;> rfl)) hP) hS dL_salt_22 (by decide) (by decide) (by (rw [hok] <;> rfl))

set_option maxHeartbeats 4000000 in
set_option maxRecDepth 100000 in
theorem wforesee (l : Launch) (D : va_G) (cI cC cT cL : ClassId) (hl0 : l.stackTraces = false) (x : Nat) (A B : Nat → Nat) (nc nt : Nat) (f g : Nat → Int32) (nc2 nt2 : Nat) (f2 g2 : Nat → Int32) (ob : Nat) (w : Nat → Int64) (u v : Int32) (hnc : nc ≤ 4) (hnt : nt ≤ 6) (hI : Inv f) (hg : Gd g) (h : Nat) (hh : h < 2 ^ 29) (h0 : f 0 = nI h) : M0 l yL_foresee wsL_foresee ({ frames := 8, cells := 2, slots := 12, locals := 134 } : Room) D (TY cI cC cT cL) [.ref x, .int u, .int v, .ref ob] ((YW cI cC cT x A (B 0) nc nt f g ++ OB cL ob w) ++ CW cI cC cT B nc2 nt2 f2 g2) (some (.int (nI (kFore u v)))) ((YW cI cC cT x A (B 0) nc nt f g ++ OB cL ob (sel (kFore u v) (vp_updL w 0 ((cntF nt (rep (hourF nc nt g) u.toNatClampNeg f) g v.toNatClampNeg).toInt64)) w)) ++ CW cI cC cT B (sel (kFore u v) nc nc2) (sel (kFore u v) nt nt2) (sel (kFore u v) (rep (hourF nc nt g) u.toNatClampNeg f) f2) (sel (kFore u v) g g2)) 2 12 := by
  refine M0_ofH (hh := [(0, 10, 13, 15), (0, 10, 17, 13)]) (cc := cL_foresee) (maxL := 5) (ret := (some .int)) (by decide +kernel) rfl (Nat.le_of_ble_eq_true rfl) ?_
  intro p e s m args below meth c A0 B htab ls hl
  obtain ⟨hx, hb, hml, hr, hown, hts, hlocks, hK, hP, hD, hA, hST, hnm⟩ := B
  have hown : s.vm.findClass RL = some m.cls := hown
  have hS : va_S A0 s.heap s.heap [] := va_S.rf
  have hl : lv_has ls 5 [(0, .ref x), (1, .int u), (2, .int v), (3, .ref ob)] := hl
  refine lv_aload_n hx hb dL_foresee_0 rfl (lv_at hl 3 rfl) ?_
  refine lv_iconst (v := 0) hx hb dL_foresee_1 (by decide) ?_
  refine lv_aload_n hx hb dL_foresee_2 rfl (lv_at hl 0 rfl) ?_
  refine lv_iload_n hx hb dL_foresee_3 rfl (lv_at hl 1 rfl) ?_
  refine lv_iload_n hx hb dL_foresee_4 rfl (lv_at hl 2 rfl) ?_
  refine c1_V (As := [.int u, .int v]) (rest := [.int 0, .ref ob]) ⟨hx, hb, hml, hown, hts⟩ (mX3_foresee l D cI cC cT cL hl0 x A B nc nt f g nc2 nt2 f2 g2 u v hnc hnt hI hg h hh h0) (cwV 2 hts gL_foresee_X3_foresee rfl rfl rfl pX3_foresee ⟨Nat.le_of_ble_eq_true rfl, Nat.le_of_ble_eq_true rfl⟩) hK hP hD hS hA hST (Jn_fw) (Jn_fw) 0 rfl rfl rfl rfl hl.1 rfl (Nat.le_of_ble_eq_true rfl) dL_foresee_5 ⟨Nat.le_of_ble_eq_true rfl, Nat.le_of_ble_eq_true rfl⟩ rfl (fun E ce q9 H locs hE hP hS h1 h2 h3 => ?_) (fun hok H locs hP hD hS => ?_)
  ·
    rcases hE with ⟨hk, rfl⟩ | ⟨hk, rfl⟩ | ⟨hk, rfl⟩
    ·
      refine vx_catch hown [] ⟨0, 10, 13, 15⟩ [⟨0, 10, 17, 13⟩] (htab.trans rfl) (fun z hz => nomatch hz) (by decide) (by decide) (hts _ clL_foresee_15) (va_Nw.use rfl (hST.2.2.2.2.1 _ (by simp [CA]))) h1 h2 h3 ?_
      refine lv_astore (lv' := [(4, .ref q9), (0, .ref x), (1, .int u), (2, .int v), (3, .ref ob)]) hx hb dL_foresee_13 hl (by decide) rfl (fun ls hl => ?_)
      refine lv_iconst (v := 1) hx hb dL_foresee_15 (by decide) ?_
      exact e0_i hx hb hr hlocks (P_eq (by (rw [hk] <;> rfl)) hP) hS dL_foresee_16 (by decide) (by decide) (by (rw [hk] <;> rfl))
    ·
      refine vx_catch hown [⟨0, 10, 13, 15⟩] ⟨0, 10, 17, 13⟩ [] (htab.trans rfl) (fun z hz => by rw [List.mem_singleton.mp hz]; exact Or.inr ⟨by decide, IAE, hts _ clL_foresee_15, hST.2.2.2.1 _ (List.mem_of_getElem? (i := 0) rfl)⟩) (by decide) (by decide) (hts _ clL_foresee_13) (va_Nw.use rfl (hST.2.2.2.2.1 _ (by simp [CA]))) h1 h2 h3 ?_
      refine lv_astore (lv' := [(4, .ref q9), (0, .ref x), (1, .int u), (2, .int v), (3, .ref ob)]) hx hb dL_foresee_17 hl (by decide) rfl (fun ls hl => ?_)
      refine lv_iconst (v := 2) hx hb dL_foresee_19 (by decide) ?_
      exact e0_i hx hb hr hlocks (P_eq (by (rw [hk] <;> rfl)) hP) hS dL_foresee_20 (by decide) (by decide) (by (rw [hk] <;> rfl))
    ·
      exact absurd hk (by intro hk; unfold kFore at hk; (repeat' split at hk) <;> omega)
  ·
    refine lv_i2l hx hb dL_foresee_8 rfl ?_
    refine w_lst hx hb hK hP hD hS 16 3 rfl rfl 0 rfl (by decide) (by decide) (ws' := (YW cI cC cT x A (B 0) nc nt f g ++ OB cL ob (vp_updL w 0 ((cntF nt (rep (hourF nc nt g) u.toNatClampNeg f) g v.toNatClampNeg).toInt64))) ++ CW cI cC cT B nc nt (rep (hourF nc nt g) u.toNatClampNeg f) g) rfl dL_foresee_9 (fun H locs hP hD hS => ?_)
    refine lv_goto (tgt := 21) hx hb dL_foresee_10 (by decide) ?_
    refine lv_iconst (v := 0) hx hb dL_foresee_21 (by decide) ?_
    exact e0_i hx hb hr hlocks (P_eq (by (rw [hok] <;> rfl)) hP) hS dL_foresee_22 (by decide) (by decide) (by (rw [hok] <;> rfl))
