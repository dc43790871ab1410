set_option maxHeartbeats 4000000 in
set_option maxRecDepth 100000 in
theorem mX0_heatAt (l : Launch) (D : va_G) (cI cC cT cL : ClassId) (A : Nat → Nat) (nc nt : Nat) (f g : Nat → Int32) (x : Int32) (tm : Nat) (htm : tm < 2 ^ 31) (hxt : x = nI tm) : M0 l yX0_heatAt wsX0_heatAt ({ frames := 1, cells := 0, slots := 0, locals := 22 } : Room) D (TY cI cC cT cL) [.ref (A 0), .int x] (CW cI cC cT A nc nt f g) (some (.int (g (tm / 24 % 7)))) (CW cI cC cT A nc nt f g) 0 0 := by
  refine M0_of (cc := cX0_heatAt) (maxL := 2) (ret := (some .int)) (by decide +kernel) rfl (Nat.le_of_ble_eq_true rfl) ?_
  intro p e s m args below meth c A0 B ls hl
  obtain ⟨hx, hb, hml, hr, hown, hts, hlocks, hK, hP, hD, hA, hST, hnm⟩ := B
  have hown : s.vm.findClass RX0 = some m.cls := hown
  have hS : va_S A0 s.heap s.heap [] := va_S.rf
  have hl : lv_has ls 2 [(0, .ref (A 0)), (1, .int x)] := hl
  refine lv_aload_n hx hb dX0_heatAt_0 rfl (lv_at hl 0 rfl) ?_
  refine w_get hx hb hts iX0_heatAt_X0 hown hK hP 0 rfl rfl 1 (by decide) fX0_heatAt_18 rfl rfl dX0_heatAt_1 ?_
  refine lv_iload_n hx hb dX0_heatAt_4 rfl (lv_at hl 1 rfl) ?_
  refine lv_bipush (v := 24) hx hb dX0_heatAt_5 (by decide) ?_
  refine lv_idiv hx hb dX0_heatAt_7 (by decide) ?_
  refine lv_bipush (v := 7) hx hb dX0_heatAt_8 (by decide) ?_
  refine c0_S (As := [.int (x / 24), .int 7]) (rest := [.ref (A 2)]) ⟨hx, hb, hml, hown, hts⟩ (mJ9_floorMod_7cf53 l D cI cC cT cL (x / 24) 7 (by decide)) (va_cwS 2 hts gX0_heatAt_J9_floorMod_7cf53 rfl rfl rfl pJ9_floorMod_7cf53 ⟨Nat.le_of_ble_eq_true rfl, Nat.le_of_ble_eq_true rfl⟩) hK hP hD hS hA hST (Jn_nil _) rfl hl.1 rfl (Nat.le_of_ble_eq_true rfl) dX0_heatAt_10 ⟨Nat.le_of_ble_eq_true rfl, Nat.le_of_ble_eq_true rfl⟩ rfl (fun H locs hP hD hS => ?_)
  refine w_ild hx hb hK hP 2 0 rfl rfl (tm / 24 % 7) (by rw [hxt]; exact fmod_nI htm) (Nat.mod_lt _ (by decide)) (by decide) (v := g (tm / 24 % 7)) rfl dX0_heatAt_13 ?_
  exact e0_i hx hb hr hlocks hP hS dX0_heatAt_14 (by decide) (by decide) (rfl)

set_option maxHeartbeats 4000000 in
set_option maxRecDepth 100000 in
theorem mX0_scoopsInTubs (l : Launch) (D : va_G) (cI cC cT cL : ClassId) (A : Nat → Nat) (nc nt : Nat) (f g : Nat → Int32) (hnt : nt ≤ 6) : M0 l yX0_scoopsInTubs wsX0_scoopsInTubs ({ frames := 0, cells := 0, slots := 0, locals := 0 } : Room) D (TY cI cC cT cL) [.ref (A 0)] (CW cI cC cT A nc nt f g) (some (.int (sumS f nt))) (CW cI cC cT A nc nt f g) 0 0 := by
  refine M0_of (cc := cX0_scoopsInTubs) (maxL := 3) (ret := (some .int)) (by decide +kernel) rfl (Nat.le_of_ble_eq_true rfl) ?_
  intro p e s m args below meth c A0 B ls hl
  obtain ⟨hx, hb, hml, hr, hown, hts, hlocks, hK, hP, hD, hA, hST, hnm⟩ := B
  have hown : s.vm.findClass RX0 = some m.cls := hown
  have hS : va_S A0 s.heap s.heap [] := va_S.rf
  have hl : lv_has ls 3 [(0, .ref (A 0))] := hl
  refine lv_iconst (v := 0) hx hb dX0_scoopsInTubs_0 (by decide) ?_
  refine lv_istore_n (lv' := [(1, .int 0), (0, .ref (A 0))]) hx hb dX0_scoopsInTubs_1 rfl hl (by decide) rfl (fun ls hl => ?_)
  refine lv_iconst (v := 0) hx hb dX0_scoopsInTubs_2 (by decide) ?_
  refine lv_istore_n (lv' := [(2, .int 0), (1, .int 0), (0, .ref (A 0))]) hx hb dX0_scoopsInTubs_3 rfl hl (by decide) rfl (fun ls hl => ?_)
  have lp0 : ∀ (n j : Nat), j + n = nt → ∀ (H : Heap) (locs : List Loc), va_P D vwCl (CW cI cC cT A nc nt f g) H → va_D A0 (CW cI cC cT A nc nt f g) → va_S A0 s.heap H locs → ∀ ls, lv_has ls 3 [(2, .int (nI j)), (1, .int (sumS f j)), (0, .ref (A 0))] → W p l e ({ frames := 0, cells := 0, slots := 0, locals := 0 } : Room) s m args below meth c H locs 0 0 (Q0 below D (some (.int (sumS f nt))) (CW cI cC cT A nc nt f g) A0 args s 0 0) (F0 m 4 ls []) := by
    intro n
    induction n with
    | zero =>
      intro j hj   H locs hP hD hS ls hl
      have hje : nt = j := by omega
      subst hje
      refine lv_iload_n hx hb dX0_scoopsInTubs_4 rfl (lv_at hl 0 rfl) ?_
      refine lv_aload_n hx hb dX0_scoopsInTubs_5 rfl (lv_at hl 2 rfl) ?_
      refine w_get hx hb hts iX0_scoopsInTubs_X0 hown hK hP 0 rfl rfl 5 (by decide) fX0_scoopsInTubs_68 rfl rfl dX0_scoopsInTubs_6 ?_
      refine lv_icmp_ge (tgt := 30) hx hb dX0_scoopsInTubs_9 (by decide) (fun c_9 => ?_) (fun c_9 => ?_)
      rotate_left
      · exact absurd (Int32.le_refl _) c_9
      refine lv_iload_n hx hb dX0_scoopsInTubs_30 rfl (lv_at hl 1 rfl) ?_
      exact e0_i hx hb hr hlocks hP hS dX0_scoopsInTubs_31 (by decide) (by decide) (rfl)
    | succ n ih =>
      intro j hj   H locs hP hD hS ls hl
      refine lv_iload_n hx hb dX0_scoopsInTubs_4 rfl (lv_at hl 0 rfl) ?_
      refine lv_aload_n hx hb dX0_scoopsInTubs_5 rfl (lv_at hl 2 rfl) ?_
      refine w_get hx hb hts iX0_scoopsInTubs_X0 hown hK hP 0 rfl rfl 5 (by decide) fX0_scoopsInTubs_68 rfl rfl dX0_scoopsInTubs_6 ?_
      refine lv_icmp_ge (tgt := 30) hx hb dX0_scoopsInTubs_9 (by decide) (fun c_9 => ?_) (fun c_9 => ?_)
      · exact absurd c_9 (nI_ge (by omega) (by omega))
      refine lv_iload_n hx hb dX0_scoopsInTubs_12 rfl (lv_at hl 1 rfl) ?_
      refine lv_aload_n hx hb dX0_scoopsInTubs_13 rfl (lv_at hl 2 rfl) ?_
      refine w_get hx hb hts iX0_scoopsInTubs_X0 hown hK hP 0 rfl rfl 3 (by decide) fX0_scoopsInTubs_29 rfl rfl dX0_scoopsInTubs_14 ?_
      refine lv_iload_n hx hb dX0_scoopsInTubs_17 rfl (lv_at hl 0 rfl) ?_
      refine w_qld hx hb hK hP 4 2 rfl rfl j rfl (by omega) (by decide) (v := A (9 + j)) rfl dX0_scoopsInTubs_18 ?_
      refine w_getN hx hb hts iX0_scoopsInTubs_X2 hown hK hST hP (9 + j) (cw_gtub j (by omega)) rfl 0 (by decide) 6 rfl rfl rfl dX0_scoopsInTubs_19 ?_
      refine lv_iadd hx hb dX0_scoopsInTubs_22 ?_
      refine lv_istore_n (lv' := [(1, .int ((sumS f j) + (f (19 + 3 * j)))), (2, .int (nI j)), (0, .ref (A 0))]) hx hb dX0_scoopsInTubs_23 rfl hl (by decide) rfl (fun ls hl => ?_)
      refine lv_iinc (v := nI (j + 1)) (lv' := [(2, .int (nI (j + 1))), (1, .int ((sumS f j) + (f (19 + 3 * j)))), (0, .ref (A 0))]) hx hb dX0_scoopsInTubs_24 hl (k := 1) rfl (nI_succ _).symm (by decide) rfl (fun ls hl => ?_)
      refine lv_goto (tgt := 4) hx hb dX0_scoopsInTubs_27 (by decide) ?_
      exact ih (j + 1) (by omega) _ _ hP hD hS _ (lv_sub hl [0, 1, 2] rfl)
  exact lp0 nt 0 (by omega) _ _ hP hD hS _ (lv_sub hl [0, 1, 2] rfl)

set_option maxHeartbeats 4000000 in
set_option maxRecDepth 100000 in
theorem mX0_soldScoops (l : Launch) (D : va_G) (cI cC cT cL : ClassId) (A : Nat → Nat) (nc nt : Nat) (f g : Nat → Int32) (hnt : nt ≤ 6) : M0 l yX0_soldScoops wsX0_soldScoops ({ frames := 0, cells := 0, slots := 0, locals := 0 } : Room) D (TY cI cC cT cL) [.ref (A 0)] (CW cI cC cT A nc nt f g) (some (.int (sumD f nt))) (CW cI cC cT A nc nt f g) 0 0 := by
  refine M0_of (cc := cX0_soldScoops) (maxL := 3) (ret := (some .int)) (by decide +kernel) rfl (Nat.le_of_ble_eq_true rfl) ?_
  intro p e s m args below meth c A0 B ls hl
  obtain ⟨hx, hb, hml, hr, hown, hts, hlocks, hK, hP, hD, hA, hST, hnm⟩ := B
  have hown : s.vm.findClass RX0 = some m.cls := hown
  have hS : va_S A0 s.heap s.heap [] := va_S.rf
  have hl : lv_has ls 3 [(0, .ref (A 0))] := hl
  refine lv_iconst (v := 0) hx hb dX0_soldScoops_0 (by decide) ?_
  refine lv_istore_n (lv' := [(1, .int 0), (0, .ref (A 0))]) hx hb dX0_soldScoops_1 rfl hl (by decide) rfl (fun ls hl => ?_)
  refine lv_iconst (v := 0) hx hb dX0_soldScoops_2 (by decide) ?_
  refine lv_istore_n (lv' := [(2, .int 0), (1, .int 0), (0, .ref (A 0))]) hx hb dX0_soldScoops_3 rfl hl (by decide) rfl (fun ls hl => ?_)
  have lp0 : ∀ (n j : Nat), j + n = nt → ∀ (H : Heap) (locs : List Loc), va_P D vwCl (CW cI cC cT A nc nt f g) H → va_D A0 (CW cI cC cT A nc nt f g) → va_S A0 s.heap H locs → ∀ ls, lv_has ls 3 [(2, .int (nI j)), (1, .int (sumD f j)), (0, .ref (A 0))] → W p l e ({ frames := 0, cells := 0, slots := 0, locals := 0 } : Room) s m args below meth c H locs 0 0 (Q0 below D (some (.int (sumD f nt))) (CW cI cC cT A nc nt f g) A0 args s 0 0) (F0 m 4 ls []) := by
    intro n
    induction n with
    | zero =>
      intro j hj   H locs hP hD hS ls hl
      have hje : nt = j := by omega
      subst hje
      refine lv_iload_n hx hb dX0_soldScoops_4 rfl (lv_at hl 0 rfl) ?_
      refine lv_aload_n hx hb dX0_soldScoops_5 rfl (lv_at hl 2 rfl) ?_
      refine w_get hx hb hts iX0_soldScoops_X0 hown hK hP 0 rfl rfl 5 (by decide) fX0_soldScoops_68 rfl rfl dX0_soldScoops_6 ?_
      refine lv_icmp_ge (tgt := 30) hx hb dX0_soldScoops_9 (by decide) (fun c_9 => ?_) (fun c_9 => ?_)
      rotate_left
      · exact absurd (Int32.le_refl _) c_9
      refine lv_iload_n hx hb dX0_soldScoops_30 rfl (lv_at hl 1 rfl) ?_
      exact e0_i hx hb hr hlocks hP hS dX0_soldScoops_31 (by decide) (by decide) (rfl)
    | succ n ih =>
      intro j hj   H locs hP hD hS ls hl
      refine lv_iload_n hx hb dX0_soldScoops_4 rfl (lv_at hl 0 rfl) ?_
      refine lv_aload_n hx hb dX0_soldScoops_5 rfl (lv_at hl 2 rfl) ?_
      refine w_get hx hb hts iX0_soldScoops_X0 hown hK hP 0 rfl rfl 5 (by decide) fX0_soldScoops_68 rfl rfl dX0_soldScoops_6 ?_
      refine lv_icmp_ge (tgt := 30) hx hb dX0_soldScoops_9 (by decide) (fun c_9 => ?_) (fun c_9 => ?_)
      · exact absurd c_9 (nI_ge (by omega) (by omega))
      refine lv_iload_n hx hb dX0_soldScoops_12 rfl (lv_at hl 1 rfl) ?_
      refine lv_aload_n hx hb dX0_soldScoops_13 rfl (lv_at hl 2 rfl) ?_
      refine w_get hx hb hts iX0_soldScoops_X0 hown hK hP 0 rfl rfl 3 (by decide) fX0_soldScoops_29 rfl rfl dX0_soldScoops_14 ?_
      refine lv_iload_n hx hb dX0_soldScoops_17 rfl (lv_at hl 0 rfl) ?_
      refine w_qld hx hb hK hP 4 2 rfl rfl j rfl (by omega) (by decide) (v := A (9 + j)) rfl dX0_soldScoops_18 ?_
      refine w_getN hx hb hts iX0_soldScoops_X2 hown hK hST hP (9 + j) (cw_gtub j (by omega)) rfl 2 (by decide) 9 rfl rfl rfl dX0_soldScoops_19 ?_
      refine lv_iadd hx hb dX0_soldScoops_22 ?_
      refine lv_istore_n (lv' := [(1, .int ((sumD f j) + (f (21 + 3 * j)))), (2, .int (nI j)), (0, .ref (A 0))]) hx hb dX0_soldScoops_23 rfl hl (by decide) rfl (fun ls hl => ?_)
      refine lv_iinc (v := nI (j + 1)) (lv' := [(2, .int (nI (j + 1))), (1, .int ((sumD f j) + (f (21 + 3 * j)))), (0, .ref (A 0))]) hx hb dX0_soldScoops_24 hl (k := 1) rfl (nI_succ _).symm (by decide) rfl (fun ls hl => ?_)
      refine lv_goto (tgt := 4) hx hb dX0_soldScoops_27 (by decide) ?_
      exact ih (j + 1) (by omega) _ _ hP hD hS _ (lv_sub hl [0, 1, 2] rfl)
  exact lp0 nt 0 (by omega) _ _ hP hD hS _ (lv_sub hl [0, 1, 2] rfl)

set_option maxHeartbeats 4000000 in
set_option maxRecDepth 100000 in
theorem mX0_sellingTub (l : Launch) (D : va_G) (cI cC cT cL : ClassId) (A : Nat → Nat) (nc nt : Nat) (f g : Nat → Int32) (hnt : nt ≤ 6) (hsoft : ∀ t, t < nt → f (20 + 3 * t) ≤ 100) : M0 l yX0_sellingTub wsX0_sellingTub ({ frames := 0, cells := 0, slots := 0, locals := 0 } : Room) D (TY cI cC cT cL) [.ref (A 0)] (CW cI cC cT A nc nt f g) (some (.int (nxt f nt))) (CW cI cC cT A nc nt f g) 0 0 := by
  refine M0_of (cc := cX0_sellingTub) (maxL := 4) (ret := (some .int)) (by decide +kernel) rfl (Nat.le_of_ble_eq_true rfl) ?_
  intro p e s m args below meth c A0 B ls hl
  obtain ⟨hx, hb, hml, hr, hown, hts, hlocks, hK, hP, hD, hA, hST, hnm⟩ := B
  have hown : s.vm.findClass RX0 = some m.cls := hown
  have hS : va_S A0 s.heap s.heap [] := va_S.rf
  have hl : lv_has ls 4 [(0, .ref (A 0))] := hl
  refine lv_iconst (v := (-1)) hx hb dX0_sellingTub_0 (by decide) ?_
  refine lv_istore_n (lv' := [(1, .int (-1)), (0, .ref (A 0))]) hx hb dX0_sellingTub_1 rfl hl (by decide) rfl (fun ls hl => ?_)
  refine lv_bipush (v := 101) hx hb dX0_sellingTub_2 (by decide) ?_
  refine lv_istore_n (lv' := [(2, .int 101), (1, .int (-1)), (0, .ref (A 0))]) hx hb dX0_sellingTub_4 rfl hl (by decide) rfl (fun ls hl => ?_)
  refine lv_iconst (v := 0) hx hb dX0_sellingTub_5 (by decide) ?_
  refine lv_istore_n (lv' := [(3, .int 0), (2, .int 101), (1, .int (-1)), (0, .ref (A 0))]) hx hb dX0_sellingTub_6 rfl hl (by decide) rfl (fun ls hl => ?_)
  have lp0 : ∀ (n j : Nat), j + n = nt → ∀ (bt : Int32) (bs : Int32), (bt = nxt f j) → (bs = bsf f j) → ∀ (H : Heap) (locs : List Loc), va_P D vwCl (CW cI cC cT A nc nt f g) H → va_D A0 (CW cI cC cT A nc nt f g) → va_S A0 s.heap H locs → ∀ ls, lv_has ls 4 [(3, .int (nI j)), (2, .int bs), (1, .int bt), (0, .ref (A 0))] → W p l e ({ frames := 0, cells := 0, slots := 0, locals := 0 } : Room) s m args below meth c H locs 0 0 (Q0 below D (some (.int (nxt f nt))) (CW cI cC cT A nc nt f g) A0 args s 0 0) (F0 m 7 ls []) := by
    intro n
    induction n with
    | zero =>
      intro j hj bt bs hb1 hb2 H locs hP hD hS ls hl
      have hje : nt = j := by omega
      subst hje
      refine lv_iload_n hx hb dX0_sellingTub_7 rfl (lv_at hl 0 rfl) ?_
      refine lv_aload_n hx hb dX0_sellingTub_8 rfl (lv_at hl 3 rfl) ?_
      refine w_get hx hb hts iX0_sellingTub_X0 hown hK hP 0 rfl rfl 5 (by decide) fX0_sellingTub_68 rfl rfl dX0_sellingTub_9 ?_
      refine lv_icmp_ge (tgt := 58) hx hb dX0_sellingTub_12 (by decide) (fun c_12 => ?_) (fun c_12 => ?_)
      rotate_left
      · exact absurd (Int32.le_refl _) c_12
      refine lv_iload_n hx hb dX0_sellingTub_58 rfl (lv_at hl 2 rfl) ?_
      exact e0_i hx hb hr hlocks hP hS dX0_sellingTub_59 (by decide) (by decide) (by rw [hb1])
    | succ n ih =>
      intro j hj bt bs hb1 hb2 H locs hP hD hS ls hl
      refine lv_iload_n hx hb dX0_sellingTub_7 rfl (lv_at hl 0 rfl) ?_
      refine lv_aload_n hx hb dX0_sellingTub_8 rfl (lv_at hl 3 rfl) ?_
      refine w_get hx hb hts iX0_sellingTub_X0 hown hK hP 0 rfl rfl 5 (by decide) fX0_sellingTub_68 rfl rfl dX0_sellingTub_9 ?_
      refine lv_icmp_ge (tgt := 58) hx hb dX0_sellingTub_12 (by decide) (fun c_12 => ?_) (fun c_12 => ?_)
      · exact absurd c_12 (nI_ge (by omega) (by omega))
      refine lv_aload_n hx hb dX0_sellingTub_15 rfl (lv_at hl 3 rfl) ?_
      refine w_get hx hb hts iX0_sellingTub_X0 hown hK hP 0 rfl rfl 3 (by decide) fX0_sellingTub_29 rfl rfl dX0_sellingTub_16 ?_
      refine lv_iload_n hx hb dX0_sellingTub_19 rfl (lv_at hl 0 rfl) ?_
      refine w_qld hx hb hK hP 4 2 rfl rfl j rfl (by omega) (by decide) (v := A (9 + j)) rfl dX0_sellingTub_20 ?_
      refine w_getN hx hb hts iX0_sellingTub_X2 hown hK hST hP (9 + j) (cw_gtub j (by omega)) rfl 0 (by decide) 6 rfl rfl rfl dX0_sellingTub_21 ?_
      refine lv_if_le (tgt := 52) hx hb dX0_sellingTub_24 (by decide) (fun c_24 => ?_) (fun c_24 => ?_)
      ·
        refine lv_iinc (v := nI (j + 1)) (lv' := [(3, .int (nI (j + 1))), (2, .int bs), (1, .int bt), (0, .ref (A 0))]) hx hb dX0_sellingTub_52 hl (k := 0) rfl (nI_succ _).symm (by decide) rfl (fun ls hl => ?_)
        refine lv_goto (tgt := 7) hx hb dX0_sellingTub_55 (by decide) ?_
        exact ih (j + 1) (by omega) bt bs (by rw [(sel_a c_24).1]; exact hb1) (by rw [(sel_a c_24).2]; exact hb2) _ _ hP hD hS _ (lv_sub hl [0, 1, 2, 3] rfl)
      ·
        refine lv_aload_n hx hb dX0_sellingTub_27 rfl (lv_at hl 3 rfl) ?_
        refine w_get hx hb hts iX0_sellingTub_X0 hown hK hP 0 rfl rfl 3 (by decide) fX0_sellingTub_29 rfl rfl dX0_sellingTub_28 ?_
        refine lv_iload_n hx hb dX0_sellingTub_31 rfl (lv_at hl 0 rfl) ?_
        refine w_qld hx hb hK hP 4 2 rfl rfl j rfl (by omega) (by decide) (v := A (9 + j)) rfl dX0_sellingTub_32 ?_
        refine w_getN hx hb hts iX0_sellingTub_X2 hown hK hST hP (9 + j) (cw_gtub j (by omega)) rfl 1 (by decide) 8 rfl rfl rfl dX0_sellingTub_33 ?_
        refine lv_iload_n hx hb dX0_sellingTub_36 rfl (lv_at hl 1 rfl) ?_
        refine lv_icmp_ge (tgt := 52) hx hb dX0_sellingTub_37 (by decide) (fun c_37 => ?_) (fun c_37 => ?_)
        ·
          refine lv_iinc (v := nI (j + 1)) (lv' := [(3, .int (nI (j + 1))), (2, .int bs), (1, .int bt), (0, .ref (A 0))]) hx hb dX0_sellingTub_52 hl (k := 0) rfl (nI_succ _).symm (by decide) rfl (fun ls hl => ?_)
          refine lv_goto (tgt := 7) hx hb dX0_sellingTub_55 (by decide) ?_
          exact ih (j + 1) (by omega) bt bs (by rw [(sel_b (hb2 ▸ c_37) (hsoft j (by omega))).1]; exact hb1) (by rw [(sel_b (hb2 ▸ c_37) (hsoft j (by omega))).2]; exact hb2) _ _ hP hD hS _ (lv_sub hl [0, 1, 2, 3] rfl)
        ·
          refine lv_iload_n hx hb dX0_sellingTub_40 rfl (lv_at hl 0 rfl) ?_
          refine lv_istore_n (lv' := [(1, .int (nI j)), (3, .int (nI j)), (2, .int bs), (0, .ref (A 0))]) hx hb dX0_sellingTub_41 rfl hl (by decide) rfl (fun ls hl => ?_)
          refine lv_aload_n hx hb dX0_sellingTub_42 rfl (lv_at hl 3 rfl) ?_
          refine w_get hx hb hts iX0_sellingTub_X0 hown hK hP 0 rfl rfl 3 (by decide) fX0_sellingTub_29 rfl rfl dX0_sellingTub_43 ?_
          refine lv_iload_n hx hb dX0_sellingTub_46 rfl (lv_at hl 1 rfl) ?_
          refine w_qld hx hb hK hP 4 2 rfl rfl j rfl (by omega) (by decide) (v := A (9 + j)) rfl dX0_sellingTub_47 ?_
          refine w_getN hx hb hts iX0_sellingTub_X2 hown hK hST hP (9 + j) (cw_gtub j (by omega)) rfl 1 (by decide) 8 rfl rfl rfl dX0_sellingTub_48 ?_
          refine lv_istore_n (lv' := [(2, .int (f (20 + 3 * j))), (1, .int (nI j)), (3, .int (nI j)), (0, .ref (A 0))]) hx hb dX0_sellingTub_51 rfl hl (by decide) rfl (fun ls hl => ?_)
          refine lv_iinc (v := nI (j + 1)) (lv' := [(3, .int (nI (j + 1))), (2, .int (f (20 + 3 * j))), (1, .int (nI j)), (0, .ref (A 0))]) hx hb dX0_sellingTub_52 hl (k := 2) rfl (nI_succ _).symm (by decide) rfl (fun ls hl => ?_)
          refine lv_goto (tgt := 7) hx hb dX0_sellingTub_55 (by decide) ?_
          exact ih (j + 1) (by omega) (nI j) (f (20 + 3 * j)) (sel_c (by omega) (Int32.not_le.mp c_24) (by rw [← hb2]; exact Int32.not_le.mp c_37)).1.symm (sel_c (by omega) (Int32.not_le.mp c_24) (by rw [← hb2]; exact Int32.not_le.mp c_37)).2.symm _ _ hP hD hS _ (lv_sub hl [0, 1, 2, 3] rfl)
  exact lp0 nt 0 (by omega) (-1) 101 rfl rfl _ _ hP hD hS _ (lv_sub hl [0, 1, 2, 3] rfl)

def cntF (nt : Nat) (f g : Nat → Int32) (w : Nat) : Int32 := if w = 0 then f 0 else if w = 1 then hotOf f g else if w = 2 then f 1 else if w = 3 then f 2 else if w = 4 then f 3 else if w = 5 then f 4 else if w = 6 then f 5 else if w = 7 then sumS f nt else if w = 8 then sumD f nt else f 6

set_option maxHeartbeats 4000000 in
set_option maxRecDepth 100000 in
theorem mX0_number_0 (l : Launch) (D : va_G) (cI cC cT cL : ClassId) (A : Nat → Nat) (nc nt : Nat) (f g : Nat → Int32) (hnt : nt ≤ 6) (h : Nat) (hh : h < 2 ^ 31) (h0 : f 0 = nI h) : M0 l yX0_number wsX0_number ({ frames := 2, cells := 0, slots := 0, locals := 44 } : Room) D (TY cI cC cT cL) [.ref (A 0), .int 0] (CW cI cC cT A nc nt f g) (some (.int (cntF nt f g 0))) (CW cI cC cT A nc nt f g) 0 0 := by
  refine M0_of (cc := cX0_number) (maxL := 2) (ret := (some .int)) (by decide +kernel) rfl (Nat.le_of_ble_eq_true rfl) ?_
  intro p e s m args below meth c A0 B ls hl
  obtain ⟨hx, hb, hml, hr, hown, hts, hlocks, hK, hP, hD, hA, hST, hnm⟩ := B
  have hown : s.vm.findClass RX0 = some m.cls := hown
  have hS : va_S A0 s.heap s.heap [] := va_S.rf
  have hl : lv_has ls 2 [(0, .ref (A 0)), (1, .int 0)] := hl
  refine lv_iload_n hx hb dX0_number_0 rfl (lv_at hl 1 rfl) ?_
  refine lv_tableIn (tgt := 52) hx hb dX0_number_1 (by decide) (by decide) rfl (by decide) ?_
  refine lv_aload_n hx hb dX0_number_52 rfl (lv_at hl 0 rfl) ?_
  refine w_get hx hb hts iX0_number_X0 hown hK hP 0 rfl rfl 6 (by decide) fX0_number_41 rfl rfl dX0_number_53 ?_
  exact e0_i hx hb hr hlocks hP hS dX0_number_56 (by decide) (by decide) (by rw [cntF]; rfl)

set_option maxHeartbeats 4000000 in
set_option maxRecDepth 100000 in
theorem mX0_number_1 (l : Launch) (D : va_G) (cI cC cT cL : ClassId) (A : Nat → Nat) (nc nt : Nat) (f g : Nat → Int32) (hnt : nt ≤ 6) (h : Nat) (hh : h < 2 ^ 31) (h0 : f 0 = nI h) : M0 l yX0_number wsX0_number ({ frames := 2, cells := 0, slots := 0, locals := 44 } : Room) D (TY cI cC cT cL) [.ref (A 0), .int 1] (CW cI cC cT A nc nt f g) (some (.int (cntF nt f g 1))) (CW cI cC cT A nc nt f g) 0 0 := by
  refine M0_of (cc := cX0_number) (maxL := 2) (ret := (some .int)) (by decide +kernel) rfl (Nat.le_of_ble_eq_true rfl) ?_
  intro p e s m args below meth c A0 B ls hl
  obtain ⟨hx, hb, hml, hr, hown, hts, hlocks, hK, hP, hD, hA, hST, hnm⟩ := B
  have hown : s.vm.findClass RX0 = some m.cls := hown
  have hS : va_S A0 s.heap s.heap [] := va_S.rf
  have hl : lv_has ls 2 [(0, .ref (A 0)), (1, .int 1)] := hl
  refine lv_iload_n hx hb dX0_number_0 rfl (lv_at hl 1 rfl) ?_
  refine lv_tableIn (tgt := 57) hx hb dX0_number_1 (by decide) (by decide) rfl (by decide) ?_
  refine lv_aload_n hx hb dX0_number_57 rfl (lv_at hl 0 rfl) ?_
  refine lv_aload_n hx hb dX0_number_58 rfl (lv_at hl 0 rfl) ?_
  refine w_get hx hb hts iX0_number_X0 hown hK hP 0 rfl rfl 6 (by decide) fX0_number_41 rfl rfl dX0_number_59 ?_
  refine c0_V (As := [.int (f 0)]) (rest := []) ⟨hx, hb, hml, hown, hts⟩ (mX0_heatAt l D cI cC cT cL A nc nt f g (f 0) h hh h0) (cwV 1 hts gX0_number_X0_heatAt rfl rfl rfl pX0_heatAt ⟨Nat.le_of_ble_eq_true rfl, Nat.le_of_ble_eq_true rfl⟩) hK hP hD hS hA hST (Jn_all _ _ rfl) 0 rfl rfl rfl rfl hl.1 rfl (Nat.le_of_ble_eq_true rfl) dX0_number_62 ⟨Nat.le_of_ble_eq_true rfl, Nat.le_of_ble_eq_true rfl⟩ rfl (fun H locs hP hD hS => ?_)
  exact e0_i hx hb hr hlocks hP hS dX0_number_65 (by decide) (by decide) (by rw [cntF, hotOf, hrN, h0, nI_clamp hh]; rfl)

set_option maxHeartbeats 4000000 in
set_option maxRecDepth 100000 in
theorem mX0_number_2 (l : Launch) (D : va_G) (cI cC cT cL : ClassId) (A : Nat → Nat) (nc nt : Nat) (f g : Nat → Int32) (hnt : nt ≤ 6) (h : Nat) (hh : h < 2 ^ 31) (h0 : f 0 = nI h) : M0 l yX0_number wsX0_number ({ frames := 2, cells := 0, slots := 0, locals := 44 } : Room) D (TY cI cC cT cL) [.ref (A 0), .int 2] (CW cI cC cT A nc nt f g) (some (.int (cntF nt f g 2))) (CW cI cC cT A nc nt f g) 0 0 := by
  refine M0_of (cc := cX0_number) (maxL := 2) (ret := (some .int)) (by decide +kernel) rfl (Nat.le_of_ble_eq_true rfl) ?_
  intro p e s m args below meth c A0 B ls hl
  obtain ⟨hx, hb, hml, hr, hown, hts, hlocks, hK, hP, hD, hA, hST, hnm⟩ := B
  have hown : s.vm.findClass RX0 = some m.cls := hown
  have hS : va_S A0 s.heap s.heap [] := va_S.rf
  have hl : lv_has ls 2 [(0, .ref (A 0)), (1, .int 2)] := hl
  refine lv_iload_n hx hb dX0_number_0 rfl (lv_at hl 1 rfl) ?_
  refine lv_tableIn (tgt := 66) hx hb dX0_number_1 (by decide) (by decide) rfl (by decide) ?_
  refine lv_aload_n hx hb dX0_number_66 rfl (lv_at hl 0 rfl) ?_
  refine w_get hx hb hts iX0_number_X0 hown hK hP 0 rfl rfl 0 (by decide) fX0_number_13 rfl rfl dX0_number_67 ?_
  refine lv_iconst (v := 0) hx hb dX0_number_70 (by decide) ?_
  refine w_ild hx hb hK hP 1 0 rfl rfl 0 rfl (by decide) (by decide) (v := f 1) rfl dX0_number_71 ?_
  exact e0_i hx hb hr hlocks hP hS dX0_number_72 (by decide) (by decide) (by rw [cntF]; rfl)

set_option maxHeartbeats 4000000 in
set_option maxRecDepth 100000 in
theorem mX0_number_3 (l : Launch) (D : va_G) (cI cC cT cL : ClassId) (A : Nat → Nat) (nc nt : Nat) (f g : Nat → Int32) (hnt : nt ≤ 6) (h : Nat) (hh : h < 2 ^ 31) (h0 : f 0 = nI h) : M0 l yX0_number wsX0_number ({ frames := 2, cells := 0, slots := 0, locals := 44 } : Room) D (TY cI cC cT cL) [.ref (A 0), .int 3] (CW cI cC cT A nc nt f g) (some (.int (cntF nt f g 3))) (CW cI cC cT A nc nt f g) 0 0 := by
  refine M0_of (cc := cX0_number) (maxL := 2) (ret := (some .int)) (by decide +kernel) rfl (Nat.le_of_ble_eq_true rfl) ?_
  intro p e s m args below meth c A0 B ls hl
  obtain ⟨hx, hb, hml, hr, hown, hts, hlocks, hK, hP, hD, hA, hST, hnm⟩ := B
  have hown : s.vm.findClass RX0 = some m.cls := hown
  have hS : va_S A0 s.heap s.heap [] := va_S.rf
  have hl : lv_has ls 2 [(0, .ref (A 0)), (1, .int 3)] := hl
  refine lv_iload_n hx hb dX0_number_0 rfl (lv_at hl 1 rfl) ?_
  refine lv_tableIn (tgt := 73) hx hb dX0_number_1 (by decide) (by decide) rfl (by decide) ?_
  refine lv_aload_n hx hb dX0_number_73 rfl (lv_at hl 0 rfl) ?_
  refine w_get hx hb hts iX0_number_X0 hown hK hP 0 rfl rfl 0 (by decide) fX0_number_13 rfl rfl dX0_number_74 ?_
  refine lv_iconst (v := 1) hx hb dX0_number_77 (by decide) ?_
  refine w_ild hx hb hK hP 1 0 rfl rfl 1 rfl (by decide) (by decide) (v := f 2) rfl dX0_number_78 ?_
  exact e0_i hx hb hr hlocks hP hS dX0_number_79 (by decide) (by decide) (by rw [cntF]; rfl)

set_option maxHeartbeats 4000000 in
set_option maxRecDepth 100000 in
theorem mX0_number_4 (l : Launch) (D : va_G) (cI cC cT cL : ClassId) (A : Nat → Nat) (nc nt : Nat) (f g : Nat → Int32) (hnt : nt ≤ 6) (h : Nat) (hh : h < 2 ^ 31) (h0 : f 0 = nI h) : M0 l yX0_number wsX0_number ({ frames := 2, cells := 0, slots := 0, locals := 44 } : Room) D (TY cI cC cT cL) [.ref (A 0), .int 4] (CW cI cC cT A nc nt f g) (some (.int (cntF nt f g 4))) (CW cI cC cT A nc nt f g) 0 0 := by
  refine M0_of (cc := cX0_number) (maxL := 2) (ret := (some .int)) (by decide +kernel) rfl (Nat.le_of_ble_eq_true rfl) ?_
  intro p e s m args below meth c A0 B ls hl
  obtain ⟨hx, hb, hml, hr, hown, hts, hlocks, hK, hP, hD, hA, hST, hnm⟩ := B
  have hown : s.vm.findClass RX0 = some m.cls := hown
  have hS : va_S A0 s.heap s.heap [] := va_S.rf
  have hl : lv_has ls 2 [(0, .ref (A 0)), (1, .int 4)] := hl
  refine lv_iload_n hx hb dX0_number_0 rfl (lv_at hl 1 rfl) ?_
  refine lv_tableIn (tgt := 80) hx hb dX0_number_1 (by decide) (by decide) rfl (by decide) ?_
  refine lv_aload_n hx hb dX0_number_80 rfl (lv_at hl 0 rfl) ?_
  refine w_get hx hb hts iX0_number_X0 hown hK hP 0 rfl rfl 0 (by decide) fX0_number_13 rfl rfl dX0_number_81 ?_
  refine lv_iconst (v := 2) hx hb dX0_number_84 (by decide) ?_
  refine w_ild hx hb hK hP 1 0 rfl rfl 2 rfl (by decide) (by decide) (v := f 3) rfl dX0_number_85 ?_
  exact e0_i hx hb hr hlocks hP hS dX0_number_86 (by decide) (by decide) (by rw [cntF]; rfl)

set_option maxHeartbeats 4000000 in
set_option maxRecDepth 100000 in
theorem mX0_number_5 (l : Launch) (D : va_G) (cI cC cT cL : ClassId) (A : Nat → Nat) (nc nt : Nat) (f g : Nat → Int32) (hnt : nt ≤ 6) (h : Nat) (hh : h < 2 ^ 31) (h0 : f 0 = nI h) : M0 l yX0_number wsX0_number ({ frames := 2, cells := 0, slots := 0, locals := 44 } : Room) D (TY cI cC cT cL) [.ref (A 0), .int 5] (CW cI cC cT A nc nt f g) (some (.int (cntF nt f g 5))) (CW cI cC cT A nc nt f g) 0 0 := by
  refine M0_of (cc := cX0_number) (maxL := 2) (ret := (some .int)) (by decide +kernel) rfl (Nat.le_of_ble_eq_true rfl) ?_
  intro p e s m args below meth c A0 B ls hl
  obtain ⟨hx, hb, hml, hr, hown, hts, hlocks, hK, hP, hD, hA, hST, hnm⟩ := B
  have hown : s.vm.findClass RX0 = some m.cls := hown
  have hS : va_S A0 s.heap s.heap [] := va_S.rf
  have hl : lv_has ls 2 [(0, .ref (A 0)), (1, .int 5)] := hl
  refine lv_iload_n hx hb dX0_number_0 rfl (lv_at hl 1 rfl) ?_
  refine lv_tableIn (tgt := 87) hx hb dX0_number_1 (by decide) (by decide) rfl (by decide) ?_
  refine lv_aload_n hx hb dX0_number_87 rfl (lv_at hl 0 rfl) ?_
  refine w_get hx hb hts iX0_number_X0 hown hK hP 0 rfl rfl 0 (by decide) fX0_number_13 rfl rfl dX0_number_88 ?_
  refine lv_iconst (v := 3) hx hb dX0_number_91 (by decide) ?_
  refine w_ild hx hb hK hP 1 0 rfl rfl 3 rfl (by decide) (by decide) (v := f 4) rfl dX0_number_92 ?_
  exact e0_i hx hb hr hlocks hP hS dX0_number_93 (by decide) (by decide) (by rw [cntF]; rfl)

set_option maxHeartbeats 4000000 in
set_option maxRecDepth 100000 in
theorem mX0_number_6 (l : Launch) (D : va_G) (cI cC cT cL : ClassId) (A : Nat → Nat) (nc nt : Nat) (f g : Nat → Int32) (hnt : nt ≤ 6) (h : Nat) (hh : h < 2 ^ 31) (h0 : f 0 = nI h) : M0 l yX0_number wsX0_number ({ frames := 2, cells := 0, slots := 0, locals := 44 } : Room) D (TY cI cC cT cL) [.ref (A 0), .int 6] (CW cI cC cT A nc nt f g) (some (.int (cntF nt f g 6))) (CW cI cC cT A nc nt f g) 0 0 := by
  refine M0_of (cc := cX0_number) (maxL := 2) (ret := (some .int)) (by decide +kernel) rfl (Nat.le_of_ble_eq_true rfl) ?_
  intro p e s m args below meth c A0 B ls hl
  obtain ⟨hx, hb, hml, hr, hown, hts, hlocks, hK, hP, hD, hA, hST, hnm⟩ := B
  have hown : s.vm.findClass RX0 = some m.cls := hown
  have hS : va_S A0 s.heap s.heap [] := va_S.rf
  have hl : lv_has ls 2 [(0, .ref (A 0)), (1, .int 6)] := hl
  refine lv_iload_n hx hb dX0_number_0 rfl (lv_at hl 1 rfl) ?_
  refine lv_tableIn (tgt := 94) hx hb dX0_number_1 (by decide) (by decide) rfl (by decide) ?_
  refine lv_aload_n hx hb dX0_number_94 rfl (lv_at hl 0 rfl) ?_
  refine w_get hx hb hts iX0_number_X0 hown hK hP 0 rfl rfl 7 (by decide) fX0_number_49 rfl rfl dX0_number_95 ?_
  exact e0_i hx hb hr hlocks hP hS dX0_number_98 (by decide) (by decide) (by rw [cntF]; rfl)

set_option maxHeartbeats 4000000 in
set_option maxRecDepth 100000 in
theorem mX0_number_7 (l : Launch) (D : va_G) (cI cC cT cL : ClassId) (A : Nat → Nat) (nc nt : Nat) (f g : Nat → Int32) (hnt : nt ≤ 6) (h : Nat) (hh : h < 2 ^ 31) (h0 : f 0 = nI h) : M0 l yX0_number wsX0_number ({ frames := 2, cells := 0, slots := 0, locals := 44 } : Room) D (TY cI cC cT cL) [.ref (A 0), .int 7] (CW cI cC cT A nc nt f g) (some (.int (cntF nt f g 7))) (CW cI cC cT A nc nt f g) 0 0 := by
  refine M0_of (cc := cX0_number) (maxL := 2) (ret := (some .int)) (by decide +kernel) rfl (Nat.le_of_ble_eq_true rfl) ?_
  intro p e s m args below meth c A0 B ls hl
  obtain ⟨hx, hb, hml, hr, hown, hts, hlocks, hK, hP, hD, hA, hST, hnm⟩ := B
  have hown : s.vm.findClass RX0 = some m.cls := hown
  have hS : va_S A0 s.heap s.heap [] := va_S.rf
  have hl : lv_has ls 2 [(0, .ref (A 0)), (1, .int 7)] := hl
  refine lv_iload_n hx hb dX0_number_0 rfl (lv_at hl 1 rfl) ?_
  refine lv_tableIn (tgt := 99) hx hb dX0_number_1 (by decide) (by decide) rfl (by decide) ?_
  refine lv_aload_n hx hb dX0_number_99 rfl (lv_at hl 0 rfl) ?_
  refine c0_V (As := []) (rest := []) ⟨hx, hb, hml, hown, hts⟩ (mX0_scoopsInTubs l D cI cC cT cL A nc nt f g hnt) (cwV 0 hts gX0_number_X0_scoopsInTubs rfl rfl rfl pX0_scoopsInTubs ⟨Nat.le_of_ble_eq_true rfl, Nat.le_of_ble_eq_true rfl⟩) hK hP hD hS hA hST (Jn_all _ _ rfl) 0 rfl rfl rfl rfl hl.1 rfl (Nat.le_of_ble_eq_true rfl) dX0_number_100 ⟨Nat.le_of_ble_eq_true rfl, Nat.le_of_ble_eq_true rfl⟩ rfl (fun H locs hP hD hS => ?_)
  exact e0_i hx hb hr hlocks hP hS dX0_number_103 (by decide) (by decide) (by rw [cntF]; rfl)

set_option maxHeartbeats 4000000 in
set_option maxRecDepth 100000 in
theorem mX0_number_8 (l : Launch) (D : va_G) (cI cC cT cL : ClassId) (A : Nat → Nat) (nc nt : Nat) (f g : Nat → Int32) (hnt : nt ≤ 6) (h : Nat) (hh : h < 2 ^ 31) (h0 : f 0 = nI h) : M0 l yX0_number wsX0_number ({ frames := 2, cells := 0, slots := 0, locals := 44 } : Room) D (TY cI cC cT cL) [.ref (A 0), .int 8] (CW cI cC cT A nc nt f g) (some (.int (cntF nt f g 8))) (CW cI cC cT A nc nt f g) 0 0 := by
  refine M0_of (cc := cX0_number) (maxL := 2) (ret := (some .int)) (by decide +kernel) rfl (Nat.le_of_ble_eq_true rfl) ?_
  intro p e s m args below meth c A0 B ls hl
  obtain ⟨hx, hb, hml, hr, hown, hts, hlocks, hK, hP, hD, hA, hST, hnm⟩ := B
  have hown : s.vm.findClass RX0 = some m.cls := hown
  have hS : va_S A0 s.heap s.heap [] := va_S.rf
  have hl : lv_has ls 2 [(0, .ref (A 0)), (1, .int 8)] := hl
  refine lv_iload_n hx hb dX0_number_0 rfl (lv_at hl 1 rfl) ?_
  refine lv_tableIn (tgt := 104) hx hb dX0_number_1 (by decide) (by decide) rfl (by decide) ?_
  refine lv_aload_n hx hb dX0_number_104 rfl (lv_at hl 0 rfl) ?_
  refine c0_V (As := []) (rest := []) ⟨hx, hb, hml, hown, hts⟩ (mX0_soldScoops l D cI cC cT cL A nc nt f g hnt) (cwV 0 hts gX0_number_X0_soldScoops rfl rfl rfl pX0_soldScoops ⟨Nat.le_of_ble_eq_true rfl, Nat.le_of_ble_eq_true rfl⟩) hK hP hD hS hA hST (Jn_all _ _ rfl) 0 rfl rfl rfl rfl hl.1 rfl (Nat.le_of_ble_eq_true rfl) dX0_number_105 ⟨Nat.le_of_ble_eq_true rfl, Nat.le_of_ble_eq_true rfl⟩ rfl (fun H locs hP hD hS => ?_)
  exact e0_i hx hb hr hlocks hP hS dX0_number_108 (by decide) (by decide) (by rw [cntF]; rfl)

set_option maxHeartbeats 4000000 in
set_option maxRecDepth 100000 in
theorem mX0_number_9 (l : Launch) (D : va_G) (cI cC cT cL : ClassId) (A : Nat → Nat) (nc nt : Nat) (f g : Nat → Int32) (hnt : nt ≤ 6) (h : Nat) (hh : h < 2 ^ 31) (h0 : f 0 = nI h) : M0 l yX0_number wsX0_number ({ frames := 2, cells := 0, slots := 0, locals := 44 } : Room) D (TY cI cC cT cL) [.ref (A 0), .int 9] (CW cI cC cT A nc nt f g) (some (.int (cntF nt f g 9))) (CW cI cC cT A nc nt f g) 0 0 := by
  refine M0_of (cc := cX0_number) (maxL := 2) (ret := (some .int)) (by decide +kernel) rfl (Nat.le_of_ble_eq_true rfl) ?_
  intro p e s m args below meth c A0 B ls hl
  obtain ⟨hx, hb, hml, hr, hown, hts, hlocks, hK, hP, hD, hA, hST, hnm⟩ := B
  have hown : s.vm.findClass RX0 = some m.cls := hown
  have hS : va_S A0 s.heap s.heap [] := va_S.rf
  have hl : lv_has ls 2 [(0, .ref (A 0)), (1, .int 9)] := hl
  refine lv_iload_n hx hb dX0_number_0 rfl (lv_at hl 1 rfl) ?_
  refine lv_tableOut (tgt := 109) hx hb dX0_number_1 (by decide) (by decide) ?_
  refine lv_aload_n hx hb dX0_number_109 rfl (lv_at hl 0 rfl) ?_
  refine w_get hx hb hts iX0_number_X0 hown hK hP 0 rfl rfl 8 (by decide) fX0_number_59 rfl rfl dX0_number_110 ?_
  exact e0_i hx hb hr hlocks hP hS dX0_number_113 (by decide) (by decide) (by rw [cntF]; rfl)

theorem mX0_number (l : Launch) (D : va_G) (cI cC cT cL : ClassId) (A : Nat → Nat) (nc nt : Nat) (f g : Nat → Int32) (hnt : nt ≤ 6) (h : Nat) (hh : h < 2 ^ 31) (h0 : f 0 = nI h) (w : Nat) (hw : w < 10) : M0 l yX0_number wsX0_number ({ frames := 2, cells := 0, slots := 0, locals := 44 } : Room) D (TY cI cC cT cL) [.ref (A 0), .int (nI w)] (CW cI cC cT A nc nt f g) (some (.int (cntF nt f g w))) (CW cI cC cT A nc nt f g) 0 0 := by
  match w, hw with
  | 0, _ => exact mX0_number_0 l D cI cC cT cL A nc nt f g hnt h hh h0
  | 1, _ => exact mX0_number_1 l D cI cC cT cL A nc nt f g hnt h hh h0
  | 2, _ => exact mX0_number_2 l D cI cC cT cL A nc nt f g hnt h hh h0
  | 3, _ => exact mX0_number_3 l D cI cC cT cL A nc nt f g hnt h hh h0
  | 4, _ => exact mX0_number_4 l D cI cC cT cL A nc nt f g hnt h hh h0
  | 5, _ => exact mX0_number_5 l D cI cC cT cL A nc nt f g hnt h hh h0
  | 6, _ => exact mX0_number_6 l D cI cC cT cL A nc nt f g hnt h hh h0
  | 7, _ => exact mX0_number_7 l D cI cC cT cL A nc nt f g hnt h hh h0
  | 8, _ => exact mX0_number_8 l D cI cC cT cL A nc nt f g hnt h hh h0
  | 9, _ => exact mX0_number_9 l D cI cC cT cL A nc nt f g hnt h hh h0
