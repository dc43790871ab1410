set_option maxHeartbeats 4000000 in
set_option maxRecDepth 100000 in
theorem mX4_thrown (l : Launch) (D : va_G) (cI cC cT cL : ClassId) (M : Nat → Nat) (th : Int32) (nc nt : Nat) (f k g : Nat → Int32)  : M0 l yX4_thrown wsX4_thrown ({ frames := 0, cells := 0, slots := 0, locals := 0 } : Room) D (TY cI cC cT cL) [.ref (M 0)] (MW cI M th nc nt f k g) (some (.int (th))) (MW cI M th nc nt f k g) 0 0 := by
  refine M0_of (cc := cX4_thrown) (maxL := 1) (ret := (some .int)) (by decide +kernel) rfl (Nat.le_of_ble_eq_true rfl) ?_
  intro p e s m args below meth c A0 B ls hl
  obtain ⟨hx, hb, hml, hr, hown, hts, hlocks, hK, hP, hD, hA, hST, hnm⟩ := B
  have hown : s.vm.findClass RX4 = some m.cls := hown
  have hS : va_S A0 s.heap s.heap [] := va_S.rf
  have hl : lv_has ls 1 [(0, .ref (M 0))] := hl
  refine lv_aload_n hx hb dX4_thrown_0 rfl (lv_at hl 0 rfl) ?_
  refine w_get hx hb hts iX4_thrown_X4 hown hK hP 0 rfl rfl 0 (by decide) fX4_thrown_19 rfl rfl dX4_thrown_1 ?_
  exact e0_i hx hb hr hlocks hP hS dX4_thrown_4 (by decide) (by decide) (rfl)

set_option maxHeartbeats 4000000 in
set_option maxRecDepth 100000 in
theorem mX4_no (l : Launch) (D : va_G) (cI cC cT cL : ClassId) (M : Nat → Nat) (th : Int32) (nc nt : Nat) (f k g : Nat → Int32) (u : Int32) : M0 l yX4_no wsX4_no ({ frames := 0, cells := 0, slots := 0, locals := 0 } : Room) D (TY cI cC cT cL) [.ref (M 0), .int u] (MW cI M th nc nt f k g) (some (.int (0))) (MW cI M u nc nt f k g) 0 0 := by
  refine M0_of (cc := cX4_no) (maxL := 2) (ret := (some .int)) (by decide +kernel) rfl (Nat.le_of_ble_eq_true rfl) ?_
  intro p e s m args below meth c A0 B ls hl
  obtain ⟨hx, hb, hml, hr, hown, hts, hlocks, hK, hP, hD, hA, hST, hnm⟩ := B
  have hown : s.vm.findClass RX4 = some m.cls := hown
  have hS : va_S A0 s.heap s.heap [] := va_S.rf
  have hl : lv_has ls 2 [(0, .ref (M 0)), (1, .int u)] := hl
  refine lv_aload_n hx hb dX4_no_0 rfl (lv_at hl 0 rfl) ?_
  refine lv_iload_n hx hb dX4_no_1 rfl (lv_at hl 1 rfl) ?_
  refine w_put (C := RX4) hx hb hts iX4_no_X4 tyX4_ok nmX4 hown hK hP hD hS 0 rfl rfl 0 (by decide) fX4_no_19 rfl rfl rfl rfl (Nat.le_of_ble_eq_true rfl) (ws' := MW cI M u nc nt f k g) rfl dX4_no_2 (fun H locs hP hD hS => ?_)
  refine lv_iconst (v := 0) hx hb dX4_no_5 (by decide) ?_
  exact e0_i hx hb hr hlocks hP hS dX4_no_6 (by decide) (by decide) (rfl)

set_option maxHeartbeats 4000000 in
set_option maxRecDepth 100000 in
theorem mX4_isIn (l : Launch) (D : va_G) (cI cC cT cL : ClassId) (u v z : Int32) : M0 l yX4_isIn wsX4_isIn ({ frames := 0, cells := 0, slots := 0, locals := 0 } : Room) D (TY cI cC cT cL) [.int u, .int v, .int z] ([]) (some (.int (inB u v z))) ([]) 0 0 := by
  refine M0_of (cc := cX4_isIn) (maxL := 3) (ret := (some .boolean)) (by decide +kernel) rfl (Nat.le_of_ble_eq_true rfl) ?_
  intro p e s m args below meth c A0 B ls hl
  obtain ⟨hx, hb, hml, hr, hown, hts, hlocks, hK, hP, hD, hA, hST, hnm⟩ := B
  have hown : s.vm.findClass RX4 = some m.cls := hown
  have hS : va_S A0 s.heap s.heap [] := va_S.rf
  have hl : lv_has ls 3 [(0, .int u), (1, .int v), (2, .int z)] := hl
  refine lv_iload_n hx hb dX4_isIn_0 rfl (lv_at hl 0 rfl) ?_
  refine lv_iload_n hx hb dX4_isIn_1 rfl (lv_at hl 1 rfl) ?_
  refine lv_icmp_lt (tgt := 14) hx hb dX4_isIn_2 (by decide) (fun c_2 => ?_) (fun c_2 => ?_)
  ·
    refine lv_iconst (v := 0) hx hb dX4_isIn_14 (by decide) ?_
    exact e0_z hx hb hr hlocks hP hS dX4_isIn_15 rfl (by decide) (by decide) (by rw [inB, if_neg (fun h => absurd h.1 (Int32.not_le.mpr c_2))])
  ·
    refine lv_iload_n hx hb dX4_isIn_5 rfl (lv_at hl 0 rfl) ?_
    refine lv_iload_n hx hb dX4_isIn_6 rfl (lv_at hl 2 rfl) ?_
    refine lv_icmp_gt (tgt := 14) hx hb dX4_isIn_7 (by decide) (fun c_7 => ?_) (fun c_7 => ?_)
    ·
      refine lv_iconst (v := 0) hx hb dX4_isIn_14 (by decide) ?_
      exact e0_z hx hb hr hlocks hP hS dX4_isIn_15 rfl (by decide) (by decide) (by rw [inB, if_neg (fun h => absurd h.2 (Int32.not_le.mpr c_7))])
    ·
      refine lv_iconst (v := 1) hx hb dX4_isIn_10 (by decide) ?_
      refine lv_goto (tgt := 15) hx hb dX4_isIn_11 (by decide) ?_
      exact e0_z hx hb hr hlocks hP hS dX4_isIn_15 rfl (by decide) (by decide) (by rw [inB, if_pos ⟨Int32.not_lt.mp c_2, Int32.not_lt.mp c_7⟩])

set_option maxHeartbeats 4000000 in
set_option maxRecDepth 100000 in
theorem mX4_isChurn (l : Launch) (D : va_G) (cI cC cT cL : ClassId) (M : Nat → Nat) (th : Int32) (nc nt : Nat) (f k g : Nat → Int32) (u : Int32) : M0 l yX4_isChurn wsX4_isChurn ({ frames := 1, cells := 0, slots := 0, locals := 22 } : Room) D (TY cI cC cT cL) [.ref (M 0), .int u] (MW cI M th nc nt f k g) (some (.int (inB u 0 (nI nc - 1)))) (MW cI M th nc nt f k g) 0 0 := by
  refine M0_of (cc := cX4_isChurn) (maxL := 2) (ret := (some .boolean)) (by decide +kernel) rfl (Nat.le_of_ble_eq_true rfl) ?_
  intro p e s m args below meth c A0 B ls hl
  obtain ⟨hx, hb, hml, hr, hown, hts, hlocks, hK, hP, hD, hA, hST, hnm⟩ := B
  have hown : s.vm.findClass RX4 = some m.cls := hown
  have hS : va_S A0 s.heap s.heap [] := va_S.rf
  have hl : lv_has ls 2 [(0, .ref (M 0)), (1, .int u)] := hl
  refine lv_iload_n hx hb dX4_isChurn_0 rfl (lv_at hl 1 rfl) ?_
  refine lv_iconst (v := 0) hx hb dX4_isChurn_1 (by decide) ?_
  refine lv_aload_n hx hb dX4_isChurn_2 rfl (lv_at hl 0 rfl) ?_
  refine w_get hx hb hts iX4_isChurn_X4 hown hK hP 0 rfl rfl 1 (by decide) fX4_isChurn_23 rfl rfl dX4_isChurn_3 ?_
  refine lv_iconst (v := 1) hx hb dX4_isChurn_6 (by decide) ?_
  refine lv_isub hx hb dX4_isChurn_7 ?_
  refine c0_S (As := [.int u, .int 0, .int ((nI nc) - 1)]) (rest := []) ⟨hx, hb, hml, hown, hts⟩ (mX4_isIn l D cI cC cT cL u 0 ((nI nc) - 1)) (va_cwS 3 hts gX4_isChurn_X4_isIn rfl rfl rfl pX4_isIn ⟨Nat.le_of_ble_eq_true rfl, Nat.le_of_ble_eq_true rfl⟩) hK hP hD hS hA hST (Jn_nil _) rfl hl.1 rfl (Nat.le_of_ble_eq_true rfl) dX4_isChurn_8 ⟨Nat.le_of_ble_eq_true rfl, Nat.le_of_ble_eq_true rfl⟩ rfl (fun H locs hP hD hS => ?_)
  exact e0_z hx hb hr hlocks hP hS dX4_isChurn_11 (nar_inB) (by decide) (by decide) (rfl)

set_option maxHeartbeats 4000000 in
set_option maxRecDepth 100000 in
theorem mX4_isTub (l : Launch) (D : va_G) (cI cC cT cL : ClassId) (M : Nat → Nat) (th : Int32) (nc nt : Nat) (f k g : Nat → Int32) (u : Int32) : M0 l yX4_isTub wsX4_isTub ({ frames := 1, cells := 0, slots := 0, locals := 22 } : Room) D (TY cI cC cT cL) [.ref (M 0), .int u] (MW cI M th nc nt f k g) (some (.int (inB u 0 (nI nt - 1)))) (MW cI M th nc nt f k g) 0 0 := by
  refine M0_of (cc := cX4_isTub) (maxL := 2) (ret := (some .boolean)) (by decide +kernel) rfl (Nat.le_of_ble_eq_true rfl) ?_
  intro p e s m args below meth c A0 B ls hl
  obtain ⟨hx, hb, hml, hr, hown, hts, hlocks, hK, hP, hD, hA, hST, hnm⟩ := B
  have hown : s.vm.findClass RX4 = some m.cls := hown
  have hS : va_S A0 s.heap s.heap [] := va_S.rf
  have hl : lv_has ls 2 [(0, .ref (M 0)), (1, .int u)] := hl
  refine lv_iload_n hx hb dX4_isTub_0 rfl (lv_at hl 1 rfl) ?_
  refine lv_iconst (v := 0) hx hb dX4_isTub_1 (by decide) ?_
  refine lv_aload_n hx hb dX4_isTub_2 rfl (lv_at hl 0 rfl) ?_
  refine w_get hx hb hts iX4_isTub_X4 hown hK hP 0 rfl rfl 2 (by decide) fX4_isTub_30 rfl rfl dX4_isTub_3 ?_
  refine lv_iconst (v := 1) hx hb dX4_isTub_6 (by decide) ?_
  refine lv_isub hx hb dX4_isTub_7 ?_
  refine c0_S (As := [.int u, .int 0, .int ((nI nt) - 1)]) (rest := []) ⟨hx, hb, hml, hown, hts⟩ (mX4_isIn l D cI cC cT cL u 0 ((nI nt) - 1)) (va_cwS 3 hts gX4_isTub_X4_isIn rfl rfl rfl pX4_isIn ⟨Nat.le_of_ble_eq_true rfl, Nat.le_of_ble_eq_true rfl⟩) hK hP hD hS hA hST (Jn_nil _) rfl hl.1 rfl (Nat.le_of_ble_eq_true rfl) dX4_isTub_8 ⟨Nat.le_of_ble_eq_true rfl, Nat.le_of_ble_eq_true rfl⟩ rfl (fun H locs hP hD hS => ?_)
  exact e0_z hx hb hr hlocks hP hS dX4_isTub_11 (nar_inB) (by decide) (by decide) (rfl)

set_option maxHeartbeats 4000000 in
set_option maxRecDepth 100000 in
theorem mX4_ch (l : Launch) (D : va_G) (cI cC cT cL : ClassId) (M : Nat → Nat) (th : Int32) (nc nt : Nat) (f k g : Nat → Int32) (u v : Int32) (i w j : Nat) (hu : u = nI i) (hv : v = nI w) (hj : 7 + 3 * i + w = j) (h37 : j < 37) : M0 l yX4_ch wsX4_ch ({ frames := 0, cells := 0, slots := 0, locals := 0 } : Room) D (TY cI cC cT cL) [.ref (M 0), .int u, .int v] (MW cI M th nc nt f k g) (some (.int (f j))) (MW cI M th nc nt f k g) 0 0 := by
  refine M0_of (cc := cX4_ch) (maxL := 3) (ret := (some .int)) (by decide +kernel) rfl (Nat.le_of_ble_eq_true rfl) ?_
  intro p e s m args below meth c A0 B ls hl
  obtain ⟨hx, hb, hml, hr, hown, hts, hlocks, hK, hP, hD, hA, hST, hnm⟩ := B
  have hown : s.vm.findClass RX4 = some m.cls := hown
  have hS : va_S A0 s.heap s.heap [] := va_S.rf
  have hl : lv_has ls 3 [(0, .ref (M 0)), (1, .int u), (2, .int v)] := hl
  refine lv_aload_n hx hb dX4_ch_0 rfl (lv_at hl 0 rfl) ?_
  refine w_get hx hb hts iX4_ch_X4 hown hK hP 0 rfl rfl 3 (by decide) fX4_ch_9 rfl rfl dX4_ch_1 ?_
  refine lv_bipush (v := 7) hx hb dX4_ch_4 (by decide) ?_
  refine lv_iconst (v := 3) hx hb dX4_ch_6 (by decide) ?_
  refine lv_iload_n hx hb dX4_ch_7 rfl (lv_at hl 1 rfl) ?_
  refine lv_imul hx hb dX4_ch_8 ?_
  refine lv_iadd hx hb dX4_ch_9 ?_
  refine lv_iload_n hx hb dX4_ch_10 rfl (lv_at hl 2 rfl) ?_
  refine lv_iadd hx hb dX4_ch_11 ?_
  refine w_ild hx hb hK hP 1 0 rfl rfl j (by rw [hu, hv, ← hj]; exact ix7 7 i w) h37 (by decide) (v := f j) rfl dX4_ch_12 ?_
  exact e0_i hx hb hr hlocks hP hS dX4_ch_13 (by decide) (by decide) (rfl)

set_option maxHeartbeats 4000000 in
set_option maxRecDepth 100000 in
theorem mX4_setChurn (l : Launch) (D : va_G) (cI cC cT cL : ClassId) (M : Nat → Nat) (th : Int32) (nc nt : Nat) (f k g : Nat → Int32) (u v z : Int32) (i w j : Nat) (hu : u = nI i) (hv : v = nI w) (hj : 7 + 3 * i + w = j) (h37 : j < 37) : M0 l yX4_setChurn wsX4_setChurn ({ frames := 0, cells := 0, slots := 0, locals := 0 } : Room) D (TY cI cC cT cL) [.ref (M 0), .int u, .int v, .int z] (MW cI M th nc nt f k g) (none) (MW cI M th nc nt (upd f j z) k g) 0 0 := by
  refine M0_of (cc := cX4_setChurn) (maxL := 4) (ret := none) (by decide +kernel) rfl (Nat.le_of_ble_eq_true rfl) ?_
  intro p e s m args below meth c A0 B ls hl
  obtain ⟨hx, hb, hml, hr, hown, hts, hlocks, hK, hP, hD, hA, hST, hnm⟩ := B
  have hown : s.vm.findClass RX4 = some m.cls := hown
  have hS : va_S A0 s.heap s.heap [] := va_S.rf
  have hl : lv_has ls 4 [(0, .ref (M 0)), (1, .int u), (2, .int v), (3, .int z)] := hl
  refine lv_aload_n hx hb dX4_setChurn_0 rfl (lv_at hl 0 rfl) ?_
  refine w_get hx hb hts iX4_setChurn_X4 hown hK hP 0 rfl rfl 3 (by decide) fX4_setChurn_9 rfl rfl dX4_setChurn_1 ?_
  refine lv_bipush (v := 7) hx hb dX4_setChurn_4 (by decide) ?_
  refine lv_iconst (v := 3) hx hb dX4_setChurn_6 (by decide) ?_
  refine lv_iload_n hx hb dX4_setChurn_7 rfl (lv_at hl 1 rfl) ?_
  refine lv_imul hx hb dX4_setChurn_8 ?_
  refine lv_iadd hx hb dX4_setChurn_9 ?_
  refine lv_iload_n hx hb dX4_setChurn_10 rfl (lv_at hl 2 rfl) ?_
  refine lv_iadd hx hb dX4_setChurn_11 ?_
  refine lv_iload_n hx hb dX4_setChurn_12 rfl (lv_at hl 3 rfl) ?_
  refine w_ist hx hb hK hP hD hS 1 0 rfl rfl j (by rw [hu, hv, ← hj]; exact ix7 7 i w) h37 (by decide) (ws' := MW cI M th nc nt (upd f j z) k g) rfl dX4_setChurn_13 (fun H locs hP hD hS => ?_)
  exact e0_v hx hb hr hlocks hP hS dX4_setChurn_14 (by decide) (by decide) (rfl)

set_option maxHeartbeats 4000000 in
set_option maxRecDepth 100000 in
theorem mX4_tu (l : Launch) (D : va_G) (cI cC cT cL : ClassId) (M : Nat → Nat) (th : Int32) (nc nt : Nat) (f k g : Nat → Int32) (u v : Int32) (i w j : Nat) (hu : u = nI i) (hv : v = nI w) (hj : 19 + 3 * i + w = j) (h37 : j < 37) : M0 l yX4_tu wsX4_tu ({ frames := 0, cells := 0, slots := 0, locals := 0 } : Room) D (TY cI cC cT cL) [.ref (M 0), .int u, .int v] (MW cI M th nc nt f k g) (some (.int (f j))) (MW cI M th nc nt f k g) 0 0 := by
  refine M0_of (cc := cX4_tu) (maxL := 3) (ret := (some .int)) (by decide +kernel) rfl (Nat.le_of_ble_eq_true rfl) ?_
  intro p e s m args below meth c A0 B ls hl
  obtain ⟨hx, hb, hml, hr, hown, hts, hlocks, hK, hP, hD, hA, hST, hnm⟩ := B
  have hown : s.vm.findClass RX4 = some m.cls := hown
  have hS : va_S A0 s.heap s.heap [] := va_S.rf
  have hl : lv_has ls 3 [(0, .ref (M 0)), (1, .int u), (2, .int v)] := hl
  refine lv_aload_n hx hb dX4_tu_0 rfl (lv_at hl 0 rfl) ?_
  refine w_get hx hb hts iX4_tu_X4 hown hK hP 0 rfl rfl 3 (by decide) fX4_tu_9 rfl rfl dX4_tu_1 ?_
  refine lv_bipush (v := 19) hx hb dX4_tu_4 (by decide) ?_
  refine lv_iconst (v := 3) hx hb dX4_tu_6 (by decide) ?_
  refine lv_iload_n hx hb dX4_tu_7 rfl (lv_at hl 1 rfl) ?_
  refine lv_imul hx hb dX4_tu_8 ?_
  refine lv_iadd hx hb dX4_tu_9 ?_
  refine lv_iload_n hx hb dX4_tu_10 rfl (lv_at hl 2 rfl) ?_
  refine lv_iadd hx hb dX4_tu_11 ?_
  refine w_ild hx hb hK hP 1 0 rfl rfl j (by rw [hu, hv, ← hj]; exact ix7 19 i w) h37 (by decide) (v := f j) rfl dX4_tu_12 ?_
  exact e0_i hx hb hr hlocks hP hS dX4_tu_13 (by decide) (by decide) (rfl)

set_option maxHeartbeats 4000000 in
set_option maxRecDepth 100000 in
theorem mX4_setTub (l : Launch) (D : va_G) (cI cC cT cL : ClassId) (M : Nat → Nat) (th : Int32) (nc nt : Nat) (f k g : Nat → Int32) (u v z : Int32) (i w j : Nat) (hu : u = nI i) (hv : v = nI w) (hj : 19 + 3 * i + w = j) (h37 : j < 37) : M0 l yX4_setTub wsX4_setTub ({ frames := 0, cells := 0, slots := 0, locals := 0 } : Room) D (TY cI cC cT cL) [.ref (M 0), .int u, .int v, .int z] (MW cI M th nc nt f k g) (none) (MW cI M th nc nt (upd f j z) k g) 0 0 := by
  refine M0_of (cc := cX4_setTub) (maxL := 4) (ret := none) (by decide +kernel) rfl (Nat.le_of_ble_eq_true rfl) ?_
  intro p e s m args below meth c A0 B ls hl
  obtain ⟨hx, hb, hml, hr, hown, hts, hlocks, hK, hP, hD, hA, hST, hnm⟩ := B
  have hown : s.vm.findClass RX4 = some m.cls := hown
  have hS : va_S A0 s.heap s.heap [] := va_S.rf
  have hl : lv_has ls 4 [(0, .ref (M 0)), (1, .int u), (2, .int v), (3, .int z)] := hl
  refine lv_aload_n hx hb dX4_setTub_0 rfl (lv_at hl 0 rfl) ?_
  refine w_get hx hb hts iX4_setTub_X4 hown hK hP 0 rfl rfl 3 (by decide) fX4_setTub_9 rfl rfl dX4_setTub_1 ?_
  refine lv_bipush (v := 19) hx hb dX4_setTub_4 (by decide) ?_
  refine lv_iconst (v := 3) hx hb dX4_setTub_6 (by decide) ?_
  refine lv_iload_n hx hb dX4_setTub_7 rfl (lv_at hl 1 rfl) ?_
  refine lv_imul hx hb dX4_setTub_8 ?_
  refine lv_iadd hx hb dX4_setTub_9 ?_
  refine lv_iload_n hx hb dX4_setTub_10 rfl (lv_at hl 2 rfl) ?_
  refine lv_iadd hx hb dX4_setTub_11 ?_
  refine lv_iload_n hx hb dX4_setTub_12 rfl (lv_at hl 3 rfl) ?_
  refine w_ist hx hb hK hP hD hS 1 0 rfl rfl j (by rw [hu, hv, ← hj]; exact ix7 19 i w) h37 (by decide) (ws' := MW cI M th nc nt (upd f j z) k g) rfl dX4_setTub_13 (fun H locs hP hD hS => ?_)
  exact e0_v hx hb hr hlocks hP hS dX4_setTub_14 (by decide) (by decide) (rfl)

set_option maxHeartbeats 4000000 in
set_option maxRecDepth 100000 in
theorem mX4_heatNow (l : Launch) (D : va_G) (cI cC cT cL : ClassId) (M : Nat → Nat) (th : Int32) (nc nt : Nat) (f k g : Nat → Int32) (h : Nat) (hh : h < 2 ^ 30) (h0 : f 0 = nI h) : M0 l yX4_heatNow wsX4_heatNow ({ frames := 0, cells := 0, slots := 0, locals := 0 } : Room) D (TY cI cC cT cL) [.ref (M 0)] (MW cI M th nc nt f k g) (some (.int (hotOf f g))) (MW cI M th nc nt f k g) 0 0 := by
  refine M0_of (cc := cX4_heatNow) (maxL := 1) (ret := (some .int)) (by decide +kernel) rfl (Nat.le_of_ble_eq_true rfl) ?_
  intro p e s m args below meth c A0 B ls hl
  obtain ⟨hx, hb, hml, hr, hown, hts, hlocks, hK, hP, hD, hA, hST, hnm⟩ := B
  have hown : s.vm.findClass RX4 = some m.cls := hown
  have hS : va_S A0 s.heap s.heap [] := va_S.rf
  have hl : lv_has ls 1 [(0, .ref (M 0))] := hl
  refine lv_aload_n hx hb dX4_heatNow_0 rfl (lv_at hl 0 rfl) ?_
  refine w_get hx hb hts iX4_heatNow_X4 hown hK hP 0 rfl rfl 5 (by decide) fX4_heatNow_16 rfl rfl dX4_heatNow_1 ?_
  refine lv_aload_n hx hb dX4_heatNow_4 rfl (lv_at hl 0 rfl) ?_
  refine w_get hx hb hts iX4_heatNow_X4 hown hK hP 0 rfl rfl 3 (by decide) fX4_heatNow_9 rfl rfl dX4_heatNow_5 ?_
  refine lv_iconst (v := 0) hx hb dX4_heatNow_8 (by decide) ?_
  refine w_ild hx hb hK hP 1 0 rfl rfl 0 rfl (by decide) (by decide) (v := f 0) rfl dX4_heatNow_9 ?_
  refine lv_bipush (v := 24) hx hb dX4_heatNow_10 (by decide) ?_
  refine lv_idiv hx hb dX4_heatNow_12 (by decide) ?_
  refine lv_bipush (v := 7) hx hb dX4_heatNow_13 (by decide) ?_
  refine lv_irem hx hb dX4_heatNow_15 (by decide) ?_
  refine w_ild hx hb hK hP 3 0 rfl rfl (h / 24 % 7) (by rw [h0]; exact hm (d := 0) (by omega)) (Nat.mod_lt _ (by decide)) (by decide) (v := g (h / 24 % 7)) rfl dX4_heatNow_16 ?_
  exact e0_i hx hb hr hlocks hP hS dX4_heatNow_17 (by decide) (by decide) (by rw [hotOf, hrN, h0, nI_clamp (by omega)])

set_option maxHeartbeats 4000000 in
set_option maxRecDepth 100000 in
theorem mX4_packed (l : Launch) (D : va_G) (cI cC cT cL : ClassId) (M : Nat → Nat) (th : Int32) (nc nt : Nat) (f k g : Nat → Int32) (i : Nat) (hi : i < 4) (v z : Int32) : M0 l yX4_packed wsX4_packed ({ frames := 1, cells := 0, slots := 0, locals := 22 } : Room) D (TY cI cC cT cL) [.ref (M 0), .int (nI i), .int v, .int z] (MW cI M th nc nt f k g) (some (.int (brine (f (7 + 3 * i)) v z))) (MW cI M th nc nt f k g) 0 0 := by
  refine M0_of (cc := cX4_packed) (maxL := 4) (ret := (some .int)) (by decide +kernel) rfl (Nat.le_of_ble_eq_true rfl) ?_
  intro p e s m args below meth c A0 B ls hl
  obtain ⟨hx, hb, hml, hr, hown, hts, hlocks, hK, hP, hD, hA, hST, hnm⟩ := B
  have hown : s.vm.findClass RX4 = some m.cls := hown
  have hS : va_S A0 s.heap s.heap [] := va_S.rf
  have hl : lv_has ls 4 [(0, .ref (M 0)), (1, .int (nI i)), (2, .int v), (3, .int z)] := hl
  refine lv_bipush (v := 30) hx hb dX4_packed_0 (by decide) ?_
  refine lv_aload_n hx hb dX4_packed_2 rfl (lv_at hl 0 rfl) ?_
  refine lv_iload_n hx hb dX4_packed_3 rfl (lv_at hl 1 rfl) ?_
  refine lv_iconst (v := 0) hx hb dX4_packed_4 (by decide) ?_
  refine c0_V (As := [.int (nI i), .int 0]) (rest := [.int 30]) ⟨hx, hb, hml, hown, hts⟩ (mX4_ch l D cI cC cT cL M th nc nt f k g (nI i) 0 i 0 (7 + 3 * i) rfl rfl (by omega) (by omega)) (cwV 2 hts gX4_packed_X4_ch rfl rfl rfl pX4_ch ⟨Nat.le_of_ble_eq_true rfl, Nat.le_of_ble_eq_true rfl⟩) hK hP hD hS hA hST (Jn_mw) 0 rfl rfl rfl rfl hl.1 rfl (Nat.le_of_ble_eq_true rfl) dX4_packed_5 ⟨Nat.le_of_ble_eq_true rfl, Nat.le_of_ble_eq_true rfl⟩ rfl (fun H locs hP hD hS => ?_)
  refine lv_iload_n hx hb dX4_packed_8 rfl (lv_at hl 2 rfl) ?_
  refine lv_iconst (v := 4) hx hb dX4_packed_9 (by decide) ?_
  refine lv_idiv hx hb dX4_packed_10 (by decide) ?_
  refine lv_iadd hx hb dX4_packed_11 ?_
  refine lv_iload_n hx hb dX4_packed_12 rfl (lv_at hl 3 rfl) ?_
  refine lv_iload_n hx hb dX4_packed_13 rfl (lv_at hl 2 rfl) ?_
  refine lv_iconst (v := 4) hx hb dX4_packed_14 (by decide) ?_
  refine lv_idiv hx hb dX4_packed_15 (by decide) ?_
  refine lv_iconst (v := 2) hx hb dX4_packed_16 (by decide) ?_
  refine lv_imul hx hb dX4_packed_17 ?_
  refine w_mmin hx hb (hml.trans hl.1.symm) hown (hts _ mlX4_packed_40) (hts _ msX4_packed_min) (hts _ miX4_packed) (hts _ mcX4_packed_min) (Nat.le_of_ble_eq_true rfl) (Nat.le_of_ble_eq_true rfl) (Nat.le_of_ble_eq_true rfl) (Nat.le_of_ble_eq_true rfl) dX4_packed_18 ?_
  refine lv_iadd hx hb dX4_packed_21 ?_
  refine w_mmin hx hb (hml.trans hl.1.symm) hown (hts _ mlX4_packed_40) (hts _ msX4_packed_min) (hts _ miX4_packed) (hts _ mcX4_packed_min) (Nat.le_of_ble_eq_true rfl) (Nat.le_of_ble_eq_true rfl) (Nat.le_of_ble_eq_true rfl) (Nat.le_of_ble_eq_true rfl) dX4_packed_22 ?_
  exact e0_i hx hb hr hlocks hP hS dX4_packed_25 (by decide) (by decide) (congrArg (fun v => some (Value.int v)) brine_m.symm)

set_option maxHeartbeats 4000000 in
set_option maxRecDepth 100000 in
theorem mX4_sum_0 (l : Launch) (D : va_G) (cI cC cT cL : ClassId) (M : Nat → Nat) (th : Int32) (nc nt : Nat) (f k g : Nat → Int32) (hnt : nt ≤ 6) : M0 l yX4_sum wsX4_sum ({ frames := 1, cells := 0, slots := 0, locals := 22 } : Room) D (TY cI cC cT cL) [.ref (M 0), .int 0] (MW cI M th nc nt f k g) (some (.int (sumS f nt))) (MW cI M th nc nt f k g) 0 0 := by
  refine M0_of (cc := cX4_sum) (maxL := 4) (ret := (some .int)) (by decide +kernel) rfl (Nat.le_of_ble_eq_true rfl) ?_
  intro p e s m args below meth c A0 B ls hl
  obtain ⟨hx, hb, hml, hr, hown, hts, hlocks, hK, hP, hD, hA, hST, hnm⟩ := B
  have hown : s.vm.findClass RX4 = some m.cls := hown
  have hS : va_S A0 s.heap s.heap [] := va_S.rf
  have hl : lv_has ls 4 [(0, .ref (M 0)), (1, .int 0)] := hl
  refine lv_iconst (v := 0) hx hb dX4_sum_0 (by decide) ?_
  refine lv_istore_n (lv' := [(2, .int 0), (0, .ref (M 0)), (1, .int 0)]) hx hb dX4_sum_1 rfl hl (by decide) rfl (fun ls hl => ?_)
  refine lv_iconst (v := 0) hx hb dX4_sum_2 (by decide) ?_
  refine lv_istore_n (lv' := [(3, .int 0), (2, .int 0), (0, .ref (M 0)), (1, .int 0)]) hx hb dX4_sum_3 rfl hl (by decide) rfl (fun ls hl => ?_)
  have lp0 : ∀ (n j : Nat), j + n = nt → ∀ (H : Heap) (locs : List Loc), va_P D vwCl (MW cI M th nc nt f k g) H → va_D A0 (MW cI M th nc nt f k g) → va_S A0 s.heap H locs → ∀ ls, lv_has ls 4 [(3, .int (nI j)), (2, .int (sumS f j)), (1, .int 0), (0, .ref (M 0))] → W p l e ({ frames := 1, cells := 0, slots := 0, locals := 22 } : Room) s m args below meth c H locs 0 0 (Q0 below D (some (.int (sumS f nt))) (MW cI M th nc nt f k g) A0 args s 0 0) (F0 m 4 ls []) := by
    intro n
    induction n with
    | zero =>
      intro j hj   H locs hP hD hS ls hl
      have hje : nt = j := by omega
      subst hje
      refine lv_iload_n hx hb dX4_sum_4 rfl (lv_at hl 0 rfl) ?_
      refine lv_aload_n hx hb dX4_sum_5 rfl (lv_at hl 3 rfl) ?_
      refine w_get hx hb hts iX4_sum_X4 hown hK hP 0 rfl rfl 2 (by decide) fX4_sum_30 rfl rfl dX4_sum_6 ?_
      refine lv_icmp_ge (tgt := 27) hx hb dX4_sum_9 (by decide) (fun c_9 => ?_) (fun c_9 => ?_)
      rotate_left
      · exact absurd (Int32.le_refl _) c_9
      refine lv_iload_n hx hb dX4_sum_27 rfl (lv_at hl 1 rfl) ?_
      exact e0_i hx hb hr hlocks hP hS dX4_sum_28 (by decide) (by decide) (rfl)
    | succ n ih =>
      intro j hj   H locs hP hD hS ls hl
      refine lv_iload_n hx hb dX4_sum_4 rfl (lv_at hl 0 rfl) ?_
      refine lv_aload_n hx hb dX4_sum_5 rfl (lv_at hl 3 rfl) ?_
      refine w_get hx hb hts iX4_sum_X4 hown hK hP 0 rfl rfl 2 (by decide) fX4_sum_30 rfl rfl dX4_sum_6 ?_
      refine lv_icmp_ge (tgt := 27) hx hb dX4_sum_9 (by decide) (fun c_9 => ?_) (fun c_9 => ?_)
      · exact absurd c_9 (nI_ge (by omega) (by omega))
      refine lv_iload_n hx hb dX4_sum_12 rfl (lv_at hl 1 rfl) ?_
      refine lv_aload_n hx hb dX4_sum_13 rfl (lv_at hl 3 rfl) ?_
      refine lv_iload_n hx hb dX4_sum_14 rfl (lv_at hl 0 rfl) ?_
      refine lv_iload_n hx hb dX4_sum_15 rfl (lv_at hl 2 rfl) ?_
      refine c0_V (As := [.int (nI j), .int 0]) (rest := [.int (sumS f j)]) ⟨hx, hb, hml, hown, hts⟩ (mX4_tu l D cI cC cT cL M th nc nt f k g (nI j) 0 j 0 (19 + 3 * j) rfl rfl (by omega) (by omega)) (cwV 2 hts gX4_sum_X4_tu rfl rfl rfl pX4_tu ⟨Nat.le_of_ble_eq_true rfl, Nat.le_of_ble_eq_true rfl⟩) hK hP hD hS hA hST (Jn_mw) 0 rfl rfl rfl rfl hl.1 rfl (Nat.le_of_ble_eq_true rfl) dX4_sum_16 ⟨Nat.le_of_ble_eq_true rfl, Nat.le_of_ble_eq_true rfl⟩ rfl (fun H locs hP hD hS => ?_)
      refine lv_iadd hx hb dX4_sum_19 ?_
      refine lv_istore_n (lv' := [(2, .int ((sumS f j) + (f (19 + 3 * j)))), (3, .int (nI j)), (1, .int 0), (0, .ref (M 0))]) hx hb dX4_sum_20 rfl hl (by decide) rfl (fun ls hl => ?_)
      refine lv_iinc (v := nI (j + 1)) (lv' := [(3, .int (nI (j + 1))), (2, .int ((sumS f j) + (f (19 + 3 * j)))), (1, .int 0), (0, .ref (M 0))]) hx hb dX4_sum_21 hl (k := 1) rfl (nI_succ _).symm (by decide) rfl (fun ls hl => ?_)
      refine lv_goto (tgt := 4) hx hb dX4_sum_24 (by decide) ?_
      exact ih (j + 1) (by omega) _ _ hP hD hS _ (lv_sub hl [0, 1, 2, 3] rfl)
  exact lp0 nt 0 (by omega) _ _ hP hD hS _ (lv_sub hl [0, 1, 3, 2] rfl)

set_option maxHeartbeats 4000000 in
set_option maxRecDepth 100000 in
theorem mX4_sum_2 (l : Launch) (D : va_G) (cI cC cT cL : ClassId) (M : Nat → Nat) (th : Int32) (nc nt : Nat) (f k g : Nat → Int32) (hnt : nt ≤ 6) : M0 l yX4_sum wsX4_sum ({ frames := 1, cells := 0, slots := 0, locals := 22 } : Room) D (TY cI cC cT cL) [.ref (M 0), .int 2] (MW cI M th nc nt f k g) (some (.int (sumD f nt))) (MW cI M th nc nt f k g) 0 0 := by
  refine M0_of (cc := cX4_sum) (maxL := 4) (ret := (some .int)) (by decide +kernel) rfl (Nat.le_of_ble_eq_true rfl) ?_
  intro p e s m args below meth c A0 B ls hl
  obtain ⟨hx, hb, hml, hr, hown, hts, hlocks, hK, hP, hD, hA, hST, hnm⟩ := B
  have hown : s.vm.findClass RX4 = some m.cls := hown
  have hS : va_S A0 s.heap s.heap [] := va_S.rf
  have hl : lv_has ls 4 [(0, .ref (M 0)), (1, .int 2)] := hl
  refine lv_iconst (v := 0) hx hb dX4_sum_0 (by decide) ?_
  refine lv_istore_n (lv' := [(2, .int 0), (0, .ref (M 0)), (1, .int 2)]) hx hb dX4_sum_1 rfl hl (by decide) rfl (fun ls hl => ?_)
  refine lv_iconst (v := 0) hx hb dX4_sum_2 (by decide) ?_
  refine lv_istore_n (lv' := [(3, .int 0), (2, .int 0), (0, .ref (M 0)), (1, .int 2)]) hx hb dX4_sum_3 rfl hl (by decide) rfl (fun ls hl => ?_)
  have lp0 : ∀ (n j : Nat), j + n = nt → ∀ (H : Heap) (locs : List Loc), va_P D vwCl (MW cI M th nc nt f k g) H → va_D A0 (MW cI M th nc nt f k g) → va_S A0 s.heap H locs → ∀ ls, lv_has ls 4 [(3, .int (nI j)), (2, .int (sumD f j)), (1, .int 2), (0, .ref (M 0))] → W p l e ({ frames := 1, cells := 0, slots := 0, locals := 22 } : Room) s m args below meth c H locs 0 0 (Q0 below D (some (.int (sumD f nt))) (MW cI M th nc nt f k g) A0 args s 0 0) (F0 m 4 ls []) := by
    intro n
    induction n with
    | zero =>
      intro j hj   H locs hP hD hS ls hl
      have hje : nt = j := by omega
      subst hje
      refine lv_iload_n hx hb dX4_sum_4 rfl (lv_at hl 0 rfl) ?_
      refine lv_aload_n hx hb dX4_sum_5 rfl (lv_at hl 3 rfl) ?_
      refine w_get hx hb hts iX4_sum_X4 hown hK hP 0 rfl rfl 2 (by decide) fX4_sum_30 rfl rfl dX4_sum_6 ?_
      refine lv_icmp_ge (tgt := 27) hx hb dX4_sum_9 (by decide) (fun c_9 => ?_) (fun c_9 => ?_)
      rotate_left
      · exact absurd (Int32.le_refl _) c_9
      refine lv_iload_n hx hb dX4_sum_27 rfl (lv_at hl 1 rfl) ?_
      exact e0_i hx hb hr hlocks hP hS dX4_sum_28 (by decide) (by decide) (rfl)
    | succ n ih =>
      intro j hj   H locs hP hD hS ls hl
      refine lv_iload_n hx hb dX4_sum_4 rfl (lv_at hl 0 rfl) ?_
      refine lv_aload_n hx hb dX4_sum_5 rfl (lv_at hl 3 rfl) ?_
      refine w_get hx hb hts iX4_sum_X4 hown hK hP 0 rfl rfl 2 (by decide) fX4_sum_30 rfl rfl dX4_sum_6 ?_
      refine lv_icmp_ge (tgt := 27) hx hb dX4_sum_9 (by decide) (fun c_9 => ?_) (fun c_9 => ?_)
      · exact absurd c_9 (nI_ge (by omega) (by omega))
      refine lv_iload_n hx hb dX4_sum_12 rfl (lv_at hl 1 rfl) ?_
      refine lv_aload_n hx hb dX4_sum_13 rfl (lv_at hl 3 rfl) ?_
      refine lv_iload_n hx hb dX4_sum_14 rfl (lv_at hl 0 rfl) ?_
      refine lv_iload_n hx hb dX4_sum_15 rfl (lv_at hl 2 rfl) ?_
      refine c0_V (As := [.int (nI j), .int 2]) (rest := [.int (sumD f j)]) ⟨hx, hb, hml, hown, hts⟩ (mX4_tu l D cI cC cT cL M th nc nt f k g (nI j) 2 j 2 (21 + 3 * j) rfl rfl (by omega) (by omega)) (cwV 2 hts gX4_sum_X4_tu rfl rfl rfl pX4_tu ⟨Nat.le_of_ble_eq_true rfl, Nat.le_of_ble_eq_true rfl⟩) hK hP hD hS hA hST (Jn_mw) 0 rfl rfl rfl rfl hl.1 rfl (Nat.le_of_ble_eq_true rfl) dX4_sum_16 ⟨Nat.le_of_ble_eq_true rfl, Nat.le_of_ble_eq_true rfl⟩ rfl (fun H locs hP hD hS => ?_)
      refine lv_iadd hx hb dX4_sum_19 ?_
      refine lv_istore_n (lv' := [(2, .int ((sumD f j) + (f (21 + 3 * j)))), (3, .int (nI j)), (1, .int 2), (0, .ref (M 0))]) hx hb dX4_sum_20 rfl hl (by decide) rfl (fun ls hl => ?_)
      refine lv_iinc (v := nI (j + 1)) (lv' := [(3, .int (nI (j + 1))), (2, .int ((sumD f j) + (f (21 + 3 * j)))), (1, .int 2), (0, .ref (M 0))]) hx hb dX4_sum_21 hl (k := 1) rfl (nI_succ _).symm (by decide) rfl (fun ls hl => ?_)
      refine lv_goto (tgt := 4) hx hb dX4_sum_24 (by decide) ?_
      exact ih (j + 1) (by omega) _ _ hP hD hS _ (lv_sub hl [0, 1, 2, 3] rfl)
  exact lp0 nt 0 (by omega) _ _ hP hD hS _ (lv_sub hl [0, 1, 3, 2] rfl)

set_option maxHeartbeats 4000000 in
set_option maxRecDepth 100000 in
theorem mX4_counted (l : Launch) (D : va_G) (cI cC cT cL : ClassId) (M : Nat → Nat) (th : Int32) (nc nt : Nat) (f k g : Nat → Int32) (u : Int32) (w : Nat) (hu : u = nI w) (hw : w < 10) (hnt : nt ≤ 6) (h : Nat) (hh : h < 2 ^ 30) (h0 : f 0 = nI h) : M0 l yX4_counted wsX4_counted ({ frames := 2, cells := 1, slots := 10, locals := 45 } : Room) D (TY cI cC cT cL) [.ref (M 0), .int u] (MW cI M th nc nt f k g) (some (.int (cntF nt f g w))) (MW cI M th nc nt f k g) 1 10 := by
  refine M0_of (cc := cX4_counted) (maxL := 3) (ret := (some .int)) (by decide +kernel) rfl (Nat.le_of_ble_eq_true rfl) ?_
  intro p e s m args below meth c A0 B ls hl
  obtain ⟨hx, hb, hml, hr, hown, hts, hlocks, hK, hP, hD, hA, hST, hnm⟩ := B
  have hown : s.vm.findClass RX4 = some m.cls := hown
  have hS : va_S A0 s.heap s.heap [] := va_S.rf
  have hl : lv_has ls 3 [(0, .ref (M 0)), (1, .int u)] := hl
  refine lv_bipush (v := 10) hx hb dX4_counted_0 (by decide) ?_
  refine w_newi hx hb (hts _ acX4_counted_int) hK hP hD hS hA rfl 10 rfl (by decide) (Nat.le_of_ble_eq_true rfl) (Nat.le_of_ble_eq_true rfl) dX4_counted_2 (fun q1 H hP hD hS => ?_)
  have hP : va_P D vwCl (MW cI M th nc nt f k g ++ [(q1, .inl (cI, 10, .inl (fun _ => 0)))]) H := hP
  have hD : va_D A0 (MW cI M th nc nt f k g ++ [(q1, .inl (cI, 10, .inl (fun _ => 0)))]) := hD
  refine lv_dup hx hb dX4_counted_4 rfl ?_
  refine lv_iconst (v := 0) hx hb dX4_counted_5 (by decide) ?_
  refine lv_aload_n hx hb dX4_counted_6 rfl (lv_at hl 0 rfl) ?_
  refine w_get hx hb hts iX4_counted_X4 hown hK hP 0 rfl rfl 3 (by decide) fX4_counted_9 rfl rfl dX4_counted_7 ?_
  refine lv_iconst (v := 0) hx hb dX4_counted_10 (by decide) ?_
  refine w_ild hx hb hK hP 1 0 rfl rfl 0 rfl (by decide) (by decide) (v := f 0) rfl dX4_counted_11 ?_
  refine w_ist hx hb hK hP hD hS 4 0 rfl rfl 0 rfl (by decide) (by decide) (ws' := MW cI M th nc nt f k g ++ [(q1, .inl (cI, 10, .inl (upd (fun _ => 0) 0 (f 0))))]) rfl dX4_counted_12 (fun H locs hP hD hS => ?_)
  refine lv_dup hx hb dX4_counted_13 rfl ?_
  refine lv_iconst (v := 1) hx hb dX4_counted_14 (by decide) ?_
  refine lv_aload_n hx hb dX4_counted_15 rfl (lv_at hl 0 rfl) ?_
  refine c0_V (As := []) (rest := [.int 1, .ref q1, .ref q1]) ⟨hx, hb, hml, hown, hts⟩ (mX4_heatNow l D cI cC cT cL M th nc nt f k g h (by omega) h0) (cwV 0 hts gX4_counted_X4_heatNow rfl rfl rfl pX4_heatNow ⟨Nat.le_of_ble_eq_true rfl, Nat.le_of_ble_eq_true rfl⟩) hK hP hD hS hA hST (Jn_mwh) 0 rfl rfl rfl rfl hl.1 rfl (Nat.le_of_ble_eq_true rfl) dX4_counted_16 ⟨Nat.le_of_ble_eq_true rfl, Nat.le_of_ble_eq_true rfl⟩ rfl (fun H locs hP hD hS => ?_)
  refine w_ist hx hb hK hP hD hS 4 0 rfl rfl 1 rfl (by decide) (by decide) (ws' := MW cI M th nc nt f k g ++ [(q1, .inl (cI, 10, .inl (upd (upd (fun _ => 0) 0 (f 0)) 1 (hotOf f g))))]) rfl dX4_counted_19 (fun H locs hP hD hS => ?_)
  refine lv_dup hx hb dX4_counted_20 rfl ?_
  refine lv_iconst (v := 2) hx hb dX4_counted_21 (by decide) ?_
  refine lv_aload_n hx hb dX4_counted_22 rfl (lv_at hl 0 rfl) ?_
  refine w_get hx hb hts iX4_counted_X4 hown hK hP 0 rfl rfl 3 (by decide) fX4_counted_9 rfl rfl dX4_counted_23 ?_
  refine lv_iconst (v := 1) hx hb dX4_counted_26 (by decide) ?_
  refine w_ild hx hb hK hP 1 0 rfl rfl 1 rfl (by decide) (by decide) (v := f 1) rfl dX4_counted_27 ?_
  refine w_ist hx hb hK hP hD hS 4 0 rfl rfl 2 rfl (by decide) (by decide) (ws' := MW cI M th nc nt f k g ++ [(q1, .inl (cI, 10, .inl (upd (upd (upd (fun _ => 0) 0 (f 0)) 1 (hotOf f g)) 2 (f 1))))]) rfl dX4_counted_28 (fun H locs hP hD hS => ?_)
  refine lv_dup hx hb dX4_counted_29 rfl ?_
  refine lv_iconst (v := 3) hx hb dX4_counted_30 (by decide) ?_
  refine lv_aload_n hx hb dX4_counted_31 rfl (lv_at hl 0 rfl) ?_
  refine w_get hx hb hts iX4_counted_X4 hown hK hP 0 rfl rfl 3 (by decide) fX4_counted_9 rfl rfl dX4_counted_32 ?_
  refine lv_iconst (v := 2) hx hb dX4_counted_35 (by decide) ?_
  refine w_ild hx hb hK hP 1 0 rfl rfl 2 rfl (by decide) (by decide) (v := f 2) rfl dX4_counted_36 ?_
  refine w_ist hx hb hK hP hD hS 4 0 rfl rfl 3 rfl (by decide) (by decide) (ws' := MW cI M th nc nt f k g ++ [(q1, .inl (cI, 10, .inl (upd (upd (upd (upd (fun _ => 0) 0 (f 0)) 1 (hotOf f g)) 2 (f 1)) 3 (f 2))))]) rfl dX4_counted_37 (fun H locs hP hD hS => ?_)
  refine lv_dup hx hb dX4_counted_38 rfl ?_
  refine lv_iconst (v := 4) hx hb dX4_counted_39 (by decide) ?_
  refine lv_aload_n hx hb dX4_counted_40 rfl (lv_at hl 0 rfl) ?_
  refine w_get hx hb hts iX4_counted_X4 hown hK hP 0 rfl rfl 3 (by decide) fX4_counted_9 rfl rfl dX4_counted_41 ?_
  refine lv_iconst (v := 3) hx hb dX4_counted_44 (by decide) ?_
  refine w_ild hx hb hK hP 1 0 rfl rfl 3 rfl (by decide) (by decide) (v := f 3) rfl dX4_counted_45 ?_
  refine w_ist hx hb hK hP hD hS 4 0 rfl rfl 4 rfl (by decide) (by decide) (ws' := MW cI M th nc nt f k g ++ [(q1, .inl (cI, 10, .inl (upd (upd (upd (upd (upd (fun _ => 0) 0 (f 0)) 1 (hotOf f g)) 2 (f 1)) 3 (f 2)) 4 (f 3))))]) rfl dX4_counted_46 (fun H locs hP hD hS => ?_)
  refine lv_dup hx hb dX4_counted_47 rfl ?_
  refine lv_iconst (v := 5) hx hb dX4_counted_48 (by decide) ?_
  refine lv_aload_n hx hb dX4_counted_49 rfl (lv_at hl 0 rfl) ?_
  refine w_get hx hb hts iX4_counted_X4 hown hK hP 0 rfl rfl 3 (by decide) fX4_counted_9 rfl rfl dX4_counted_50 ?_
  refine lv_iconst (v := 4) hx hb dX4_counted_53 (by decide) ?_
  refine w_ild hx hb hK hP 1 0 rfl rfl 4 rfl (by decide) (by decide) (v := f 4) rfl dX4_counted_54 ?_
  refine w_ist hx hb hK hP hD hS 4 0 rfl rfl 5 rfl (by decide) (by decide) (ws' := MW cI M th nc nt f k g ++ [(q1, .inl (cI, 10, .inl (upd (upd (upd (upd (upd (upd (fun _ => 0) 0 (f 0)) 1 (hotOf f g)) 2 (f 1)) 3 (f 2)) 4 (f 3)) 5 (f 4))))]) rfl dX4_counted_55 (fun H locs hP hD hS => ?_)
  refine lv_dup hx hb dX4_counted_56 rfl ?_
  refine lv_bipush (v := 6) hx hb dX4_counted_57 (by decide) ?_
  refine lv_aload_n hx hb dX4_counted_59 rfl (lv_at hl 0 rfl) ?_
  refine w_get hx hb hts iX4_counted_X4 hown hK hP 0 rfl rfl 3 (by decide) fX4_counted_9 rfl rfl dX4_counted_60 ?_
  refine lv_iconst (v := 5) hx hb dX4_counted_63 (by decide) ?_
  refine w_ild hx hb hK hP 1 0 rfl rfl 5 rfl (by decide) (by decide) (v := f 5) rfl dX4_counted_64 ?_
  refine w_ist hx hb hK hP hD hS 4 0 rfl rfl 6 rfl (by decide) (by decide) (ws' := MW cI M th nc nt f k g ++ [(q1, .inl (cI, 10, .inl (upd (upd (upd (upd (upd (upd (upd (fun _ => 0) 0 (f 0)) 1 (hotOf f g)) 2 (f 1)) 3 (f 2)) 4 (f 3)) 5 (f 4)) 6 (f 5))))]) rfl dX4_counted_65 (fun H locs hP hD hS => ?_)
  refine lv_dup hx hb dX4_counted_66 rfl ?_
  refine lv_bipush (v := 7) hx hb dX4_counted_67 (by decide) ?_
  refine lv_aload_n hx hb dX4_counted_69 rfl (lv_at hl 0 rfl) ?_
  refine lv_iconst (v := 0) hx hb dX4_counted_70 (by decide) ?_
  refine c0_V (As := [.int 0]) (rest := [.int 7, .ref q1, .ref q1]) ⟨hx, hb, hml, hown, hts⟩ (mX4_sum_0 l D cI cC cT cL M th nc nt f k g hnt) (cwV 1 hts gX4_counted_X4_sum rfl rfl rfl pX4_sum ⟨Nat.le_of_ble_eq_true rfl, Nat.le_of_ble_eq_true rfl⟩) hK hP hD hS hA hST (Jn_mwh) 0 rfl rfl rfl rfl hl.1 rfl (Nat.le_of_ble_eq_true rfl) dX4_counted_71 ⟨Nat.le_of_ble_eq_true rfl, Nat.le_of_ble_eq_true rfl⟩ rfl (fun H locs hP hD hS => ?_)
  refine w_ist hx hb hK hP hD hS 4 0 rfl rfl 7 rfl (by decide) (by decide) (ws' := MW cI M th nc nt f k g ++ [(q1, .inl (cI, 10, .inl (upd (upd (upd (upd (upd (upd (upd (upd (fun _ => 0) 0 (f 0)) 1 (hotOf f g)) 2 (f 1)) 3 (f 2)) 4 (f 3)) 5 (f 4)) 6 (f 5)) 7 (sumS f nt))))]) rfl dX4_counted_74 (fun H locs hP hD hS => ?_)
  refine lv_dup hx hb dX4_counted_75 rfl ?_
  refine lv_bipush (v := 8) hx hb dX4_counted_76 (by decide) ?_
  refine lv_aload_n hx hb dX4_counted_78 rfl (lv_at hl 0 rfl) ?_
  refine lv_iconst (v := 2) hx hb dX4_counted_79 (by decide) ?_
  refine c0_V (As := [.int 2]) (rest := [.int 8, .ref q1, .ref q1]) ⟨hx, hb, hml, hown, hts⟩ (mX4_sum_2 l D cI cC cT cL M th nc nt f k g hnt) (cwV 1 hts gX4_counted_X4_sum rfl rfl rfl pX4_sum ⟨Nat.le_of_ble_eq_true rfl, Nat.le_of_ble_eq_true rfl⟩) hK hP hD hS hA hST (Jn_mwh) 0 rfl rfl rfl rfl hl.1 rfl (Nat.le_of_ble_eq_true rfl) dX4_counted_80 ⟨Nat.le_of_ble_eq_true rfl, Nat.le_of_ble_eq_true rfl⟩ rfl (fun H locs hP hD hS => ?_)
  refine w_ist hx hb hK hP hD hS 4 0 rfl rfl 8 rfl (by decide) (by decide) (ws' := MW cI M th nc nt f k g ++ [(q1, .inl (cI, 10, .inl (upd (upd (upd (upd (upd (upd (upd (upd (upd (fun _ => 0) 0 (f 0)) 1 (hotOf f g)) 2 (f 1)) 3 (f 2)) 4 (f 3)) 5 (f 4)) 6 (f 5)) 7 (sumS f nt)) 8 (sumD f nt))))]) rfl dX4_counted_83 (fun H locs hP hD hS => ?_)
  refine lv_dup hx hb dX4_counted_84 rfl ?_
  refine lv_bipush (v := 9) hx hb dX4_counted_85 (by decide) ?_
  refine lv_aload_n hx hb dX4_counted_87 rfl (lv_at hl 0 rfl) ?_
  refine w_get hx hb hts iX4_counted_X4 hown hK hP 0 rfl rfl 3 (by decide) fX4_counted_9 rfl rfl dX4_counted_88 ?_
  refine lv_bipush (v := 6) hx hb dX4_counted_91 (by decide) ?_
  refine w_ild hx hb hK hP 1 0 rfl rfl 6 rfl (by decide) (by decide) (v := f 6) rfl dX4_counted_93 ?_
  refine w_ist hx hb hK hP hD hS 4 0 rfl rfl 9 rfl (by decide) (by decide) (ws' := MW cI M th nc nt f k g ++ [(q1, .inl (cI, 10, .inl (upd (upd (upd (upd (upd (upd (upd (upd (upd (upd (fun _ => 0) 0 (f 0)) 1 (hotOf f g)) 2 (f 1)) 3 (f 2)) 4 (f 3)) 5 (f 4)) 6 (f 5)) 7 (sumS f nt)) 8 (sumD f nt)) 9 (f 6))))]) rfl dX4_counted_94 (fun H locs hP hD hS => ?_)
  refine lv_astore_n (lv' := [(2, .ref q1), (0, .ref (M 0)), (1, .int u)]) hx hb dX4_counted_95 rfl hl (by decide) rfl (fun ls hl => ?_)
  refine lv_aload_n hx hb dX4_counted_96 rfl (lv_at hl 0 rfl) ?_
  refine lv_iload_n hx hb dX4_counted_97 rfl (lv_at hl 2 rfl) ?_
  refine w_ild hx hb hK hP 4 0 rfl rfl w hu hw (by decide) (v := (upd (upd (upd (upd (upd (upd (upd (upd (upd (upd (fun _ => 0) 0 (f 0)) 1 (hotOf f g)) 2 (f 1)) 3 (f 2)) 4 (f 3)) 5 (f 4)) 6 (f 5)) 7 (sumS f nt)) 8 (sumD f nt)) 9 (f 6)) w) rfl dX4_counted_98 ?_
  have hP := P_left hP
  exact e0_i hx hb hr hlocks hP hS dX4_counted_99 (by decide) (by decide) (by rcases (show w = 0 ∨ w = 1 ∨ w = 2 ∨ w = 3 ∨ w = 4 ∨ w = 5 ∨ w = 6 ∨ w = 7 ∨ w = 8 ∨ w = 9 by omega) with rfl | rfl | rfl | rfl | rfl | rfl | rfl | rfl | rfl | rfl <;> rfl)

set_option maxHeartbeats 4000000 in
set_option maxRecDepth 100000 in
theorem mX4_nextTub (l : Launch) (D : va_G) (cI cC cT cL : ClassId) (M : Nat → Nat) (th : Int32) (nc nt : Nat) (f k g : Nat → Int32) (hnt : nt ≤ 6) : M0 l yX4_nextTub wsX4_nextTub ({ frames := 1, cells := 0, slots := 0, locals := 22 } : Room) D (TY cI cC cT cL) [.ref (M 0)] (MW cI M th nc nt f k g) (some (.int (nxt f nt))) (MW cI M th nc nt f k g) 0 0 := by
  refine M0_of (cc := cX4_nextTub) (maxL := 3) (ret := (some .int)) (by decide +kernel) rfl (Nat.le_of_ble_eq_true rfl) ?_
  intro p e s m args below meth c A0 B ls hl
  obtain ⟨hx, hb, hml, hr, hown, hts, hlocks, hK, hP, hD, hA, hST, hnm⟩ := B
  have hown : s.vm.findClass RX4 = some m.cls := hown
  have hS : va_S A0 s.heap s.heap [] := va_S.rf
  have hl : lv_has ls 3 [(0, .ref (M 0))] := hl
  refine lv_iconst (v := (-1)) hx hb dX4_nextTub_0 (by decide) ?_
  refine lv_istore_n (lv' := [(1, .int (-1)), (0, .ref (M 0))]) hx hb dX4_nextTub_1 rfl hl (by decide) rfl (fun ls hl => ?_)
  refine lv_iconst (v := 0) hx hb dX4_nextTub_2 (by decide) ?_
  refine lv_istore_n (lv' := [(2, .int 0), (1, .int (-1)), (0, .ref (M 0))]) hx hb dX4_nextTub_3 rfl hl (by decide) rfl (fun ls hl => ?_)
  have lp0 : ∀ (n j : Nat), j + n = nt → ∀ (bt : Int32), (bt = nxt f j) → ∀ (H : Heap) (locs : List Loc), va_P D vwCl (MW cI M th nc nt f k g) H → va_D A0 (MW cI M th nc nt f k g) → va_S A0 s.heap H locs → ∀ ls, lv_has ls 3 [(2, .int (nI j)), (1, .int bt), (0, .ref (M 0))] → W p l e ({ frames := 1, cells := 0, slots := 0, locals := 22 } : Room) s m args below meth c H locs 0 0 (Q0 below D (some (.int (nxt f nt))) (MW cI M th nc nt f k g) A0 args s 0 0) (F0 m 4 ls []) := by
    intro n
    induction n with
    | zero =>
      intro j hj bt hb1 H locs hP hD hS ls hl
      have hje : nt = j := by omega
      subst hje
      refine lv_iload_n hx hb dX4_nextTub_4 rfl (lv_at hl 0 rfl) ?_
      refine lv_aload_n hx hb dX4_nextTub_5 rfl (lv_at hl 2 rfl) ?_
      refine w_get hx hb hts iX4_nextTub_X4 hown hK hP 0 rfl rfl 2 (by decide) fX4_nextTub_30 rfl rfl dX4_nextTub_6 ?_
      refine lv_icmp_ge (tgt := 49) hx hb dX4_nextTub_9 (by decide) (fun c_9 => ?_) (fun c_9 => ?_)
      rotate_left
      · exact absurd (Int32.le_refl _) c_9
      refine lv_iload_n hx hb dX4_nextTub_49 rfl (lv_at hl 1 rfl) ?_
      exact e0_i hx hb hr hlocks hP hS dX4_nextTub_50 (by decide) (by decide) (by rw [hb1])
    | succ n ih =>
      intro j hj bt hb1 H locs hP hD hS ls hl
      refine lv_iload_n hx hb dX4_nextTub_4 rfl (lv_at hl 0 rfl) ?_
      refine lv_aload_n hx hb dX4_nextTub_5 rfl (lv_at hl 2 rfl) ?_
      refine w_get hx hb hts iX4_nextTub_X4 hown hK hP 0 rfl rfl 2 (by decide) fX4_nextTub_30 rfl rfl dX4_nextTub_6 ?_
      refine lv_icmp_ge (tgt := 49) hx hb dX4_nextTub_9 (by decide) (fun c_9 => ?_) (fun c_9 => ?_)
      · exact absurd c_9 (nI_ge (by omega) (by omega))
      refine lv_aload_n hx hb dX4_nextTub_12 rfl (lv_at hl 2 rfl) ?_
      refine lv_iload_n hx hb dX4_nextTub_13 rfl (lv_at hl 0 rfl) ?_
      refine lv_iconst (v := 0) hx hb dX4_nextTub_14 (by decide) ?_
      refine c0_V (As := [.int (nI j), .int 0]) (rest := []) ⟨hx, hb, hml, hown, hts⟩ (mX4_tu l D cI cC cT cL M th nc nt f k g (nI j) 0 j 0 (19 + 3 * j) rfl rfl (by omega) (by omega)) (cwV 2 hts gX4_nextTub_X4_tu rfl rfl rfl pX4_tu ⟨Nat.le_of_ble_eq_true rfl, Nat.le_of_ble_eq_true rfl⟩) hK hP hD hS hA hST (Jn_mw) 0 rfl rfl rfl rfl hl.1 rfl (Nat.le_of_ble_eq_true rfl) dX4_nextTub_15 ⟨Nat.le_of_ble_eq_true rfl, Nat.le_of_ble_eq_true rfl⟩ rfl (fun H locs hP hD hS => ?_)
      refine lv_if_le (tgt := 43) hx hb dX4_nextTub_18 (by decide) (fun c_18 => ?_) (fun c_18 => ?_)
      ·
        refine lv_iinc (v := nI (j + 1)) (lv' := [(2, .int (nI (j + 1))), (1, .int bt), (0, .ref (M 0))]) hx hb dX4_nextTub_43 hl (k := 0) rfl (nI_succ _).symm (by decide) rfl (fun ls hl => ?_)
        refine lv_goto (tgt := 4) hx hb dX4_nextTub_46 (by decide) ?_
        exact ih (j + 1) (by omega) bt (nx_skip hb1 c_18) _ _ hP hD hS _ (lv_sub hl [0, 1, 2] rfl)
      ·
        refine lv_iload_n hx hb dX4_nextTub_21 rfl (lv_at hl 1 rfl) ?_
        refine lv_iconst (v := (-1)) hx hb dX4_nextTub_22 (by decide) ?_
        refine lv_icmp_eq (tgt := 41) hx hb dX4_nextTub_23 (by decide) (fun c_23 => ?_) (fun c_23 => ?_)
        ·
          refine lv_iload_n hx hb dX4_nextTub_41 rfl (lv_at hl 0 rfl) ?_
          refine lv_istore_n (lv' := [(1, .int (nI j)), (2, .int (nI j)), (0, .ref (M 0))]) hx hb dX4_nextTub_42 rfl hl (by decide) rfl (fun ls hl => ?_)
          refine lv_iinc (v := nI (j + 1)) (lv' := [(2, .int (nI (j + 1))), (1, .int (nI j)), (0, .ref (M 0))]) hx hb dX4_nextTub_43 hl (k := 1) rfl (nI_succ _).symm (by decide) rfl (fun ls hl => ?_)
          refine lv_goto (tgt := 4) hx hb dX4_nextTub_46 (by decide) ?_
          exact ih (j + 1) (by omega) (nI j) (nx_first hb1 c_18 c_23) _ _ hP hD hS _ (lv_sub hl [0, 1, 2] rfl)
        ·
          obtain ⟨k9, hk, ek⟩ := nx_k hb1 c_23
          subst ek
          refine lv_aload_n hx hb dX4_nextTub_26 rfl (lv_at hl 2 rfl) ?_
          refine lv_iload_n hx hb dX4_nextTub_27 rfl (lv_at hl 0 rfl) ?_
          refine lv_iconst (v := 1) hx hb dX4_nextTub_28 (by decide) ?_
          refine c0_V (As := [.int (nI j), .int 1]) (rest := []) ⟨hx, hb, hml, hown, hts⟩ (mX4_tu l D cI cC cT cL M th nc nt f k g (nI j) 1 j 1 (20 + 3 * j) rfl rfl (by omega) (by omega)) (cwV 2 hts gX4_nextTub_X4_tu rfl rfl rfl pX4_tu ⟨Nat.le_of_ble_eq_true rfl, Nat.le_of_ble_eq_true rfl⟩) hK hP hD hS hA hST (Jn_mw) 0 rfl rfl rfl rfl hl.1 rfl (Nat.le_of_ble_eq_true rfl) dX4_nextTub_29 ⟨Nat.le_of_ble_eq_true rfl, Nat.le_of_ble_eq_true rfl⟩ rfl (fun H locs hP hD hS => ?_)
          refine lv_aload_n hx hb dX4_nextTub_32 rfl (lv_at hl 2 rfl) ?_
          refine lv_iload_n hx hb dX4_nextTub_33 rfl (lv_at hl 1 rfl) ?_
          refine lv_iconst (v := 1) hx hb dX4_nextTub_34 (by decide) ?_
          refine c0_V (As := [.int (nI k9), .int 1]) (rest := [.int (f (20 + 3 * j))]) ⟨hx, hb, hml, hown, hts⟩ (mX4_tu l D cI cC cT cL M th nc nt f k g (nI k9) 1 k9 1 (20 + 3 * k9) rfl rfl (by omega) (by omega)) (cwV 2 hts gX4_nextTub_X4_tu rfl rfl rfl pX4_tu ⟨Nat.le_of_ble_eq_true rfl, Nat.le_of_ble_eq_true rfl⟩) hK hP hD hS hA hST (Jn_mw) 0 rfl rfl rfl rfl hl.1 rfl (Nat.le_of_ble_eq_true rfl) dX4_nextTub_35 ⟨Nat.le_of_ble_eq_true rfl, Nat.le_of_ble_eq_true rfl⟩ rfl (fun H locs hP hD hS => ?_)
          refine lv_icmp_ge (tgt := 43) hx hb dX4_nextTub_38 (by decide) (fun c_38 => ?_) (fun c_38 => ?_)
          ·
            refine lv_iinc (v := nI (j + 1)) (lv' := [(2, .int (nI (j + 1))), (1, .int (nI k9)), (0, .ref (M 0))]) hx hb dX4_nextTub_43 hl (k := 0) rfl (nI_succ _).symm (by decide) rfl (fun ls hl => ?_)
            refine lv_goto (tgt := 4) hx hb dX4_nextTub_46 (by decide) ?_
            exact ih (j + 1) (by omega) (nI k9) (nx_stay hb1 hk (by omega) c_38) _ _ hP hD hS _ (lv_sub hl [0, 1, 2] rfl)
          ·
            refine lv_iload_n hx hb dX4_nextTub_41 rfl (lv_at hl 0 rfl) ?_
            refine lv_istore_n (lv' := [(1, .int (nI j)), (2, .int (nI j)), (0, .ref (M 0))]) hx hb dX4_nextTub_42 rfl hl (by decide) rfl (fun ls hl => ?_)
            refine lv_iinc (v := nI (j + 1)) (lv' := [(2, .int (nI (j + 1))), (1, .int (nI j)), (0, .ref (M 0))]) hx hb dX4_nextTub_43 hl (k := 1) rfl (nI_succ _).symm (by decide) rfl (fun ls hl => ?_)
            refine lv_goto (tgt := 4) hx hb dX4_nextTub_46 (by decide) ?_
            exact ih (j + 1) (by omega) (nI j) (nx_new hb1 hk (by omega) c_18 c_38) _ _ hP hD hS _ (lv_sub hl [0, 1, 2] rfl)
  exact lp0 nt 0 (by omega) (-1) rfl _ _ hP hD hS _ (lv_sub hl [0, 1, 2] rfl)
