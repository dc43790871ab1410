set_option maxHeartbeats 4000000 in
set_option maxRecDepth 100000 in
theorem mL_below (l : Launch) (D : va_G) (cI cC cT cL : ClassId) (v n : Int32) (hn0 : ¬ n = 0) : M0 l yL_below wsL_below ({ frames := 0, cells := 0, slots := 0, locals := 0 } : Room) D (TY cI cC cT cL) [.int v, .int n] ([]) (some (.int (bel v n))) ([]) 0 0 := by
  refine M0_of (cc := cL_below) (maxL := 2) (ret := (some .int)) (by decide +kernel) rfl (Nat.le_of_ble_eq_true rfl) ?_
  intro p e s m args below meth c A0 B ls hl
  obtain ⟨hx, hb, hml, hr, hown, hts, hlocks, hK, hP, hD, hA, hST, hnm⟩ := B
  have hown : s.vm.findClass RL = some m.cls := hown
  have hS : va_S A0 s.heap s.heap [] := va_S.rf
  have hl : lv_has ls 2 [(0, .int v), (1, .int n)] := hl
  refine lv_iload_n hx hb dL_below_0 rfl (lv_at hl 0 rfl) ?_
  refine lv_ldc hx hb hown (hts _ kL_below_7) dL_below_1 ?_
  refine lv_iand hx hb dL_below_3 ?_
  refine lv_iload_n hx hb dL_below_4 rfl (lv_at hl 1 rfl) ?_
  refine lv_irem hx hb dL_below_5 hn0 ?_
  exact e0_i hx hb hr hlocks hP hS dL_below_6 (by decide) (by decide) (rfl)

set_option maxHeartbeats 4000000 in
set_option maxRecDepth 100000 in
theorem mL_cell (l : Launch) (D : va_G) (cI cC cT cL : ClassId) (b L : Nat) (xs : Nat → Int32) (k : Nat) (hk : k < 2 ^ 31) (hL : L < 2 ^ 31) : MX l yL_cell wsL_cell ({ frames := 0, cells := 0, slots := 0, locals := 0 } : Room) (ES b L xs) D (TY cI cC cT cL) [.ref b, .int (nI k)] ([]) (fun o w => ∃ v, o = some (.int v) ∧ w = []) 0 0 := by
  refine MX_of (cc := cL_cell) (maxL := 2) (ret := (some .int)) (by decide +kernel) rfl (Nat.le_of_ble_eq_true rfl) ?_
  intro p e s m args below meth c A0 B hE ls hl
  obtain ⟨hx, hb, hml, hr, hown, hts, hlocks, hK, hP, hD, hA, hST, hnm⟩ := B
  have hown : s.vm.findClass RL = some m.cls := hown
  have hS : va_S A0 s.heap s.heap [] := va_S.rf
  have hl : lv_has ls 2 [(0, .ref b), (1, .int (nI k))] := hl
  have hAA : va_AOA .int s := hST.2.2.2.2.2.2.2.2.2.1
  obtain ⟨hbl, hbA, hX⟩ := hE
  refine lv_iload_n hx hb dL_cell_0 rfl (lv_at hl 1 rfl) ?_
  refine lv_aload_n hx hb dL_cell_1 rfl (lv_at hl 0 rfl) ?_
  refine va_slen hx hb hX hbl hbA hS dL_cell_2 ?_
  refine lv_icmp_ge (tgt := 12) hx hb dL_cell_3 (by decide) (fun c_3 => ?_) (fun c_3 => ?_)
  ·
    refine lv_ldc hx hb hown (hts _ kL_cell_8) dL_cell_12 ?_
    refine lv_iload_n hx hb dL_cell_14 rfl (lv_at hl 1 rfl) ?_
    refine lv_iconst (v := 3) hx hb dL_cell_15 (by decide) ?_
    refine lv_iadd hx hb dL_cell_16 ?_
    refine lv_imul hx hb dL_cell_17 ?_
    exact eX_i hx hb hr hlocks (⟨_, rfl, rfl⟩) hP hD hS dL_cell_18 (by decide) (by decide)
  ·
    refine lv_aload_n hx hb dL_cell_6 rfl (lv_at hl 0 rfl) ?_
    refine lv_iload_n hx hb dL_cell_7 rfl (lv_at hl 1 rfl) ?_
    refine va_sld hx hb hX hbl hbA hS (nin rfl ((nI_ltI hk hL).mp (Int32.not_le.mp c_3)) (by omega)) dL_cell_8 ?_
    refine lv_goto (tgt := 18) hx hb dL_cell_9 (by decide) ?_
    exact eX_i hx hb hr hlocks (⟨_, rfl, rfl⟩) hP hD hS dL_cell_18 (by decide) (by decide)

set_option maxHeartbeats 4000000 in
set_option maxRecDepth 100000 in
theorem mX4_hot (l : Launch) (D : va_G) (cI cC cT cL : ClassId) (S C T : Nat → Nat) (nc nt : Nat) (f g : Nat → Int32) (h : Nat) (hh : h < 2 ^ 30) (h0 : f 0 = nI h) : M0 l yX4_hot wsX4_hot ({ frames := 0, cells := 0, slots := 0, locals := 0 } : Room) D (TY cI cC cT cL) [.ref (S 0)] (SM cI cL S C T nc nt f g) (some (.int (hotOf f g))) (SM cI cL S C T nc nt f g) 0 0 := by
  refine M0_of (cc := cX4_hot) (maxL := 1) (ret := (some .int)) (by decide +kernel) rfl (Nat.le_of_ble_eq_true rfl) ?_
  intro p e s m args below meth c A0 B ls hl
  obtain ⟨hx, hb, hml, hr, hown, hts, hlocks, hK, hP, hD, hA, hST, hnm⟩ := B
  have hown : s.vm.findClass RX4 = some m.cls := hown
  have hS : va_S A0 s.heap s.heap [] := va_S.rf
  have hl : lv_has ls 1 [(0, .ref (S 0))] := hl
  refine lv_aload_n hx hb dX4_hot_0 rfl (lv_at hl 0 rfl) ?_
  refine w_getM hx hb hts iX4_hot_X4 hown hK hP (sm_b 0 rfl) rfl 4 (by decide) fX4_hot_13 rfl rfl (v := .ref (S 2)) dX4_hot_1 ?_
  refine lv_aload_n hx hb dX4_hot_4 rfl (lv_at hl 0 rfl) ?_
  refine w_getM hx hb hts iX4_hot_X4 hown hK hP (sm_b 0 rfl) rfl 0 (by decide) fX4_hot_24 rfl rfl (v := .int (f 0)) dX4_hot_5 ?_
  refine lv_bipush (v := 24) hx hb dX4_hot_8 (by decide) ?_
  refine lv_idiv hx hb dX4_hot_10 (by decide) ?_
  refine lv_bipush (v := 7) hx hb dX4_hot_11 (by decide) ?_
  refine lv_irem hx hb dX4_hot_13 (by decide) ?_
  refine w_ildM hx hb hK hP (sm_b 2 rfl) rfl (h / 24 % 7) (by rw [h0]; exact hm7 hh) (Nat.mod_lt _ (by decide)) (by decide) (v := g (h / 24 % 7)) rfl dX4_hot_14 ?_
  exact e0_i hx hb hr hlocks hP hS dX4_hot_15 (by decide) (by decide) (by rw [hotOf, hrN, h0, nI_clamp (by omega)])

set_option maxHeartbeats 4000000 in
set_option maxRecDepth 100000 in
theorem mX4_next (l : Launch) (D : va_G) (cI cC cT cL : ClassId) (S C T : Nat → Nat) (nc nt : Nat) (f g : Nat → Int32) (hnt : nt ≤ 6) : M0 l yX4_next wsX4_next ({ frames := 0, cells := 0, slots := 0, locals := 0 } : Room) D (TY cI cC cT cL) [.ref (S 0)] (SM cI cL S C T nc nt f g) (some (.int (nxt f nt))) (SM cI cL S C T nc nt f g) 0 0 := by
  refine M0_of (cc := cX4_next) (maxL := 3) (ret := (some .int)) (by decide +kernel) rfl (Nat.le_of_ble_eq_true rfl) ?_
  intro p e s m args below meth c A0 B ls hl
  obtain ⟨hx, hb, hml, hr, hown, hts, hlocks, hK, hP, hD, hA, hST, hnm⟩ := B
  have hown : s.vm.findClass RX4 = some m.cls := hown
  have hS : va_S A0 s.heap s.heap [] := va_S.rf
  have hl : lv_has ls 3 [(0, .ref (S 0))] := hl
  refine lv_iconst (v := (-1)) hx hb dX4_next_0 (by decide) ?_
  refine lv_istore_n (lv' := [(1, .int (-1)), (0, .ref (S 0))]) hx hb dX4_next_1 rfl hl (by decide) rfl (fun ls hl => ?_)
  refine lv_aload_n hx hb dX4_next_2 rfl (lv_at hl 1 rfl) ?_
  refine w_getM hx hb hts iX4_next_X4 hown hK hP (sm_b 0 rfl) rfl 6 (by decide) fX4_next_21 rfl rfl (v := .ref (S 4)) dX4_next_3 ?_
  refine w_alenA hx hb hK hP (sm_b 4 rfl) rfl dX4_next_6 ?_
  refine lv_iconst (v := 1) hx hb dX4_next_7 (by decide) ?_
  refine lv_isub hx hb dX4_next_8 ?_
  refine lv_istore_n (lv' := [(2, .int ((nI nt) - 1)), (1, .int (-1)), (0, .ref (S 0))]) hx hb dX4_next_9 rfl hl (by decide) rfl (fun ls hl => ?_)
  have lp0 : ∀ (n j : Nat), j + n = nt → ∀ (bt : Int32) (tv : Int32), (tv = nI (nt - j) - 1) → (Sel f (nt - j) nt bt) → ∀ (H : Heap) (locs : List Loc), va_P D vwCl (SM cI cL S C T nc nt f g) H → va_D A0 (SM cI cL S C T nc nt f g) → va_S A0 s.heap H locs → ∀ ls, lv_has ls 3 [(2, .int tv), (1, .int bt), (0, .ref (S 0))] → W p l e ({ frames := 0, cells := 0, slots := 0, locals := 0 } : Room) s m args below meth c H locs 0 0 (Q0 below D (some (.int (nxt f nt))) (SM cI cL S C T nc nt f g) A0 args s 0 0) (F0 m 10 ls []) := by
    intro n
    induction n with
    | zero =>
      intro j hj bt tv htv hs H locs hP hD hS ls hl
      have hje : nt = j := by omega
      subst hje
      refine lv_iload_n hx hb dX4_next_10 rfl (lv_at hl 0 rfl) ?_
      refine lv_if_lt (tgt := 56) hx hb dX4_next_11 (by decide) (fun c_11 => ?_) (fun c_11 => ?_)
      rotate_left
      · exact absurd c_11 (by rw [htv, Nat.sub_self]; decide)
      refine lv_iload_n hx hb dX4_next_56 rfl (lv_at hl 1 rfl) ?_
      exact e0_i hx hb hr hlocks hP hS dX4_next_57 (by decide) (by decide) (by rw [Nat.sub_self] at hs; rw [sel_u (by omega) hs])
    | succ n ih =>
      intro j hj bt tv htv hs H locs hP hD hS ls hl
      obtain ⟨k, hk⟩ : ∃ k, k + 1 = nt - j := ⟨nt - j - 1, by omega⟩
      have etv : tv = nI k := by rw [htv, ← hk, nI_pred]
      have hs9 : Sel f (k + 1) nt bt := by rw [hk]; exact hs
      refine lv_iload_n hx hb dX4_next_10 rfl (lv_at hl 0 rfl) ?_
      refine lv_if_lt (tgt := 56) hx hb dX4_next_11 (by decide) (fun c_11 => ?_) (fun c_11 => ?_)
      · exact absurd c_11 (by rw [etv]; exact nI_pos (by omega))
      subst etv
      refine lv_aload_n hx hb dX4_next_14 rfl (lv_at hl 2 rfl) ?_
      refine w_getM hx hb hts iX4_next_X4 hown hK hP (sm_b 0 rfl) rfl 6 (by decide) fX4_next_21 rfl rfl (v := .ref (S 4)) dX4_next_15 ?_
      refine lv_iload_n hx hb dX4_next_18 rfl (lv_at hl 0 rfl) ?_
      refine w_qldA hx hb hK hP (sm_b 4 rfl) rfl k rfl (by omega) (by omega) (v := T k) rfl dX4_next_19 ?_
      refine lv_iconst (v := 0) hx hb dX4_next_20 (by decide) ?_
      refine w_ildM hx hb hK hP (sm_t (by omega)) rfl 0 rfl (by decide) (by decide) (v := f (19 + 3 * k)) rfl dX4_next_21 ?_
      refine lv_if_le (tgt := 50) hx hb dX4_next_22 (by decide) (fun c_22 => ?_) (fun c_22 => ?_)
      ·
        refine lv_iinc (v := nI k - 1) (lv' := [(2, .int (nI k - 1)), (1, .int bt), (0, .ref (S 0))]) hx hb dX4_next_50 hl (k := 0) rfl (dec1 k) (by decide) rfl (fun ls hl => ?_)
        refine lv_goto (tgt := 10) hx hb dX4_next_53 (by decide) ?_
        exact ih (j + 1) (by omega) bt (nI k - 1) (by rw [show nt - (j + 1) = k by omega]) (by rw [show nt - (j + 1) = k by omega]; exact (sl_skip hs9 c_22)) _ _ hP hD hS _ (lv_sub hl [0, 1, 2] rfl)
      ·
        refine lv_iload_n hx hb dX4_next_25 rfl (lv_at hl 1 rfl) ?_
        refine lv_if_lt (tgt := 48) hx hb dX4_next_26 (by decide) (fun c_26 => ?_) (fun c_26 => ?_)
        ·
          refine lv_iload_n hx hb dX4_next_48 rfl (lv_at hl 0 rfl) ?_
          refine lv_istore_n (lv' := [(1, .int (nI k)), (2, .int (nI k)), (0, .ref (S 0))]) hx hb dX4_next_49 rfl hl (by decide) rfl (fun ls hl => ?_)
          refine lv_iinc (v := nI k - 1) (lv' := [(2, .int (nI k - 1)), (1, .int (nI k)), (0, .ref (S 0))]) hx hb dX4_next_50 hl (k := 1) rfl (dec1 k) (by decide) rfl (fun ls hl => ?_)
          refine lv_goto (tgt := 10) hx hb dX4_next_53 (by decide) ?_
          exact ih (j + 1) (by omega) (nI k) (nI k - 1) (by rw [show nt - (j + 1) = k by omega]) (by rw [show nt - (j + 1) = k by omega]; exact (sl_first (by omega) (by omega) hs9 c_22 c_26)) _ _ hP hD hS _ (lv_sub hl [0, 1, 2] rfl)
        ·
          obtain ⟨k2, hk2a, hk2, ek2⟩ := sl_of (by omega) hs9 c_26
          subst ek2
          refine lv_aload_n hx hb dX4_next_29 rfl (lv_at hl 2 rfl) ?_
          refine w_getM hx hb hts iX4_next_X4 hown hK hP (sm_b 0 rfl) rfl 6 (by decide) fX4_next_21 rfl rfl (v := .ref (S 4)) dX4_next_30 ?_
          refine lv_iload_n hx hb dX4_next_33 rfl (lv_at hl 0 rfl) ?_
          refine w_qldA hx hb hK hP (sm_b 4 rfl) rfl k rfl (by omega) (by omega) (v := T k) rfl dX4_next_34 ?_
          refine lv_iconst (v := 1) hx hb dX4_next_35 (by decide) ?_
          refine w_ildM hx hb hK hP (sm_t (by omega)) rfl 1 rfl (by decide) (by decide) (v := f (20 + 3 * k)) rfl dX4_next_36 ?_
          refine lv_aload_n hx hb dX4_next_37 rfl (lv_at hl 2 rfl) ?_
          refine w_getM hx hb hts iX4_next_X4 hown hK hP (sm_b 0 rfl) rfl 6 (by decide) fX4_next_21 rfl rfl (v := .ref (S 4)) dX4_next_38 ?_
          refine lv_iload_n hx hb dX4_next_41 rfl (lv_at hl 1 rfl) ?_
          refine w_qldA hx hb hK hP (sm_b 4 rfl) rfl k2 rfl (by omega) (by omega) (v := T k2) rfl dX4_next_42 ?_
          refine lv_iconst (v := 1) hx hb dX4_next_43 (by decide) ?_
          refine w_ildM hx hb hK hP (sm_t (by omega)) rfl 1 rfl (by decide) (by decide) (v := f (20 + 3 * k2)) rfl dX4_next_44 ?_
          refine lv_icmp_gt (tgt := 50) hx hb dX4_next_45 (by decide) (fun c_45 => ?_) (fun c_45 => ?_)
          ·
            refine lv_iinc (v := nI k - 1) (lv' := [(2, .int (nI k - 1)), (1, .int (nI k2)), (0, .ref (S 0))]) hx hb dX4_next_50 hl (k := 0) rfl (dec1 k) (by decide) rfl (fun ls hl => ?_)
            refine lv_goto (tgt := 10) hx hb dX4_next_53 (by decide) ?_
            exact ih (j + 1) (by omega) (nI k2) (nI k - 1) (by rw [show nt - (j + 1) = k by omega]) (by rw [show nt - (j + 1) = k by omega]; exact (sl_keep (by omega) (by omega) hs9 (Int32.not_le.mpr c_45))) _ _ hP hD hS _ (lv_sub hl [0, 1, 2] rfl)
          ·
            refine lv_iload_n hx hb dX4_next_48 rfl (lv_at hl 0 rfl) ?_
            refine lv_istore_n (lv' := [(1, .int (nI k)), (2, .int (nI k)), (0, .ref (S 0))]) hx hb dX4_next_49 rfl hl (by decide) rfl (fun ls hl => ?_)
            refine lv_iinc (v := nI k - 1) (lv' := [(2, .int (nI k - 1)), (1, .int (nI k)), (0, .ref (S 0))]) hx hb dX4_next_50 hl (k := 1) rfl (dec1 k) (by decide) rfl (fun ls hl => ?_)
            refine lv_goto (tgt := 10) hx hb dX4_next_53 (by decide) ?_
            exact ih (j + 1) (by omega) (nI k) (nI k - 1) (by rw [show nt - (j + 1) = k by omega]) (by rw [show nt - (j + 1) = k by omega]; exact (sl_new (by omega) (by omega) (by omega) hs9 c_22 (Int32.not_lt.mp c_45))) _ _ hP hD hS _ (lv_sub hl [0, 1, 2] rfl)
  exact lp0 nt 0 (by omega) (-1) _ rfl (by rw [Nat.sub_zero]; exact sl_0) _ _ hP hD hS _ (lv_sub hl [0, 1, 2] rfl)

set_option maxHeartbeats 4000000 in
set_option maxRecDepth 100000 in
theorem mX4_sum_0 (l : Launch) (D : va_G) (cI cC cT cL : ClassId) (S C T : Nat → Nat) (nc nt : Nat) (f g : Nat → Int32) (hnt : nt ≤ 6) : M0 l yX4_sum wsX4_sum ({ frames := 0, cells := 0, slots := 0, locals := 0 } : Room) D (TY cI cC cT cL) [.ref (S 0), .int 0] (SM cI cL S C T nc nt f g) (some (.int (sumS f nt))) (SM cI cL S C T nc nt f g) 0 0 := by
  refine M0_of (cc := cX4_sum) (maxL := 7) (ret := (some .int)) (by decide +kernel) rfl (Nat.le_of_ble_eq_true rfl) ?_
  intro p e s m args below meth c A0 B ls hl
  obtain ⟨hx, hb, hml, hr, hown, hts, hlocks, hK, hP, hD, hA, hST, hnm⟩ := B
  have hown : s.vm.findClass RX4 = some m.cls := hown
  have hS : va_S A0 s.heap s.heap [] := va_S.rf
  have hl : lv_has ls 7 [(0, .ref (S 0)), (1, .int 0)] := hl
  refine lv_iconst (v := 0) hx hb dX4_sum_0 (by decide) ?_
  refine lv_istore_n (lv' := [(2, .int 0), (0, .ref (S 0)), (1, .int 0)]) hx hb dX4_sum_1 rfl hl (by decide) rfl (fun ls hl => ?_)
  refine lv_aload_n hx hb dX4_sum_2 rfl (lv_at hl 1 rfl) ?_
  refine w_getM hx hb hts iX4_sum_X4 hown hK hP (sm_b 0 rfl) rfl 6 (by decide) fX4_sum_21 rfl rfl (v := .ref (S 4)) dX4_sum_3 ?_
  refine lv_astore_n (lv' := [(3, .ref (S 4)), (2, .int 0), (0, .ref (S 0)), (1, .int 0)]) hx hb dX4_sum_6 rfl hl (by decide) rfl (fun ls hl => ?_)
  refine lv_aload_n hx hb dX4_sum_7 rfl (lv_at hl 0 rfl) ?_
  refine w_alenA hx hb hK hP (sm_b 4 rfl) rfl dX4_sum_8 ?_
  refine lv_istore (lv' := [(4, .int (nI nt)), (3, .ref (S 4)), (2, .int 0), (0, .ref (S 0)), (1, .int 0)]) hx hb dX4_sum_9 hl (by decide) rfl (fun ls hl => ?_)
  refine lv_iconst (v := 0) hx hb dX4_sum_11 (by decide) ?_
  refine lv_istore (lv' := [(5, .int 0), (4, .int (nI nt)), (3, .ref (S 4)), (2, .int 0), (0, .ref (S 0)), (1, .int 0)]) hx hb dX4_sum_12 hl (by decide) rfl (fun ls hl => ?_)
  have lp0 : ∀ (n j : Nat), j + n = nt → ∀ (H : Heap) (locs : List Loc), va_P D vwCl (SM cI cL S C T nc nt f g) H → va_D A0 (SM cI cL S C T nc nt f g) → va_S A0 s.heap H locs → ∀ ls, lv_has ls 7 [(5, .int (nI j)), (4, .int (nI nt)), (3, .ref (S 4)), (2, .int (sumS f j)), (1, .int 0), (0, .ref (S 0))] → W p l e ({ frames := 0, cells := 0, slots := 0, locals := 0 } : Room) s m args below meth c H locs 0 0 (Q0 below D (some (.int (sumS f nt))) (SM cI cL S C T nc nt f g) A0 args s 0 0) (F0 m 14 ls []) := by
    intro n
    induction n with
    | zero =>
      intro j hj   H locs hP hD hS ls hl
      have hje : nt = j := by omega
      subst hje
      refine lv_iload hx hb dX4_sum_14 (lv_at hl 0 rfl) ?_
      refine lv_iload hx hb dX4_sum_16 (lv_at hl 1 rfl) ?_
      refine lv_icmp_ge (tgt := 40) hx hb dX4_sum_18 (by decide) (fun c_18 => ?_) (fun c_18 => ?_)
      rotate_left
      · exact absurd (Int32.le_refl _) c_18
      refine lv_iload_n hx hb dX4_sum_40 rfl (lv_at hl 3 rfl) ?_
      exact e0_i hx hb hr hlocks hP hS dX4_sum_41 (by decide) (by decide) (rfl)
    | succ n ih =>
      intro j hj   H locs hP hD hS ls hl
      refine lv_iload hx hb dX4_sum_14 (lv_at hl 0 rfl) ?_
      refine lv_iload hx hb dX4_sum_16 (lv_at hl 1 rfl) ?_
      refine lv_icmp_ge (tgt := 40) hx hb dX4_sum_18 (by decide) (fun c_18 => ?_) (fun c_18 => ?_)
      · exact absurd c_18 (nI_ge (by omega) (by omega))
      refine lv_aload_n hx hb dX4_sum_21 rfl (lv_at hl 2 rfl) ?_
      refine lv_iload hx hb dX4_sum_22 (lv_at hl 0 rfl) ?_
      refine w_qldA hx hb hK hP (sm_b 4 rfl) rfl j rfl (by omega) (by omega) (v := T j) rfl dX4_sum_24 ?_
      refine lv_astore (lv' := [(6, .ref (T j)), (5, .int (nI j)), (4, .int (nI nt)), (3, .ref (S 4)), (2, .int (sumS f j)), (1, .int 0), (0, .ref (S 0))]) hx hb dX4_sum_25 hl (by decide) rfl (fun ls hl => ?_)
      refine lv_iload_n hx hb dX4_sum_27 rfl (lv_at hl 4 rfl) ?_
      refine lv_aload hx hb dX4_sum_28 (lv_at hl 0 rfl) ?_
      refine lv_iload_n hx hb dX4_sum_30 rfl (lv_at hl 5 rfl) ?_
      refine w_ildM hx hb hK hP (sm_t (by omega)) rfl 0 rfl (by decide) (by decide) (v := f (19 + 3 * j)) rfl dX4_sum_31 ?_
      refine lv_iadd hx hb dX4_sum_32 ?_
      refine lv_istore_n (lv' := [(2, .int ((sumS f j) + (f (19 + 3 * j)))), (6, .ref (T j)), (5, .int (nI j)), (4, .int (nI nt)), (3, .ref (S 4)), (1, .int 0), (0, .ref (S 0))]) hx hb dX4_sum_33 rfl hl (by decide) rfl (fun ls hl => ?_)
      refine lv_iinc (v := nI (j + 1)) (lv' := [(5, .int (nI (j + 1))), (2, .int ((sumS f j) + (f (19 + 3 * j)))), (6, .ref (T j)), (4, .int (nI nt)), (3, .ref (S 4)), (1, .int 0), (0, .ref (S 0))]) hx hb dX4_sum_34 hl (k := 2) rfl (nI_succ _).symm (by decide) rfl (fun ls hl => ?_)
      refine lv_goto (tgt := 14) hx hb dX4_sum_37 (by decide) ?_
      exact ih (j + 1) (by omega) _ _ hP hD hS _ (lv_sub hl [0, 3, 4, 1, 5, 6] rfl)
  exact lp0 nt 0 (by omega) _ _ hP hD hS _ (lv_sub hl [0, 1, 2, 3, 5, 4] rfl)

set_option maxHeartbeats 4000000 in
set_option maxRecDepth 100000 in
theorem mX4_sum_2 (l : Launch) (D : va_G) (cI cC cT cL : ClassId) (S C T : Nat → Nat) (nc nt : Nat) (f g : Nat → Int32) (hnt : nt ≤ 6) : M0 l yX4_sum wsX4_sum ({ frames := 0, cells := 0, slots := 0, locals := 0 } : Room) D (TY cI cC cT cL) [.ref (S 0), .int 2] (SM cI cL S C T nc nt f g) (some (.int (sumD f nt))) (SM cI cL S C T nc nt f g) 0 0 := by
  refine M0_of (cc := cX4_sum) (maxL := 7) (ret := (some .int)) (by decide +kernel) rfl (Nat.le_of_ble_eq_true rfl) ?_
  intro p e s m args below meth c A0 B ls hl
  obtain ⟨hx, hb, hml, hr, hown, hts, hlocks, hK, hP, hD, hA, hST, hnm⟩ := B
  have hown : s.vm.findClass RX4 = some m.cls := hown
  have hS : va_S A0 s.heap s.heap [] := va_S.rf
  have hl : lv_has ls 7 [(0, .ref (S 0)), (1, .int 2)] := hl
  refine lv_iconst (v := 0) hx hb dX4_sum_0 (by decide) ?_
  refine lv_istore_n (lv' := [(2, .int 0), (0, .ref (S 0)), (1, .int 2)]) hx hb dX4_sum_1 rfl hl (by decide) rfl (fun ls hl => ?_)
  refine lv_aload_n hx hb dX4_sum_2 rfl (lv_at hl 1 rfl) ?_
  refine w_getM hx hb hts iX4_sum_X4 hown hK hP (sm_b 0 rfl) rfl 6 (by decide) fX4_sum_21 rfl rfl (v := .ref (S 4)) dX4_sum_3 ?_
  refine lv_astore_n (lv' := [(3, .ref (S 4)), (2, .int 0), (0, .ref (S 0)), (1, .int 2)]) hx hb dX4_sum_6 rfl hl (by decide) rfl (fun ls hl => ?_)
  refine lv_aload_n hx hb dX4_sum_7 rfl (lv_at hl 0 rfl) ?_
  refine w_alenA hx hb hK hP (sm_b 4 rfl) rfl dX4_sum_8 ?_
  refine lv_istore (lv' := [(4, .int (nI nt)), (3, .ref (S 4)), (2, .int 0), (0, .ref (S 0)), (1, .int 2)]) hx hb dX4_sum_9 hl (by decide) rfl (fun ls hl => ?_)
  refine lv_iconst (v := 0) hx hb dX4_sum_11 (by decide) ?_
  refine lv_istore (lv' := [(5, .int 0), (4, .int (nI nt)), (3, .ref (S 4)), (2, .int 0), (0, .ref (S 0)), (1, .int 2)]) hx hb dX4_sum_12 hl (by decide) rfl (fun ls hl => ?_)
  have lp0 : ∀ (n j : Nat), j + n = nt → ∀ (H : Heap) (locs : List Loc), va_P D vwCl (SM cI cL S C T nc nt f g) H → va_D A0 (SM cI cL S C T nc nt f g) → va_S A0 s.heap H locs → ∀ ls, lv_has ls 7 [(5, .int (nI j)), (4, .int (nI nt)), (3, .ref (S 4)), (2, .int (sumD f j)), (1, .int 2), (0, .ref (S 0))] → W p l e ({ frames := 0, cells := 0, slots := 0, locals := 0 } : Room) s m args below meth c H locs 0 0 (Q0 below D (some (.int (sumD f nt))) (SM cI cL S C T nc nt f g) A0 args s 0 0) (F0 m 14 ls []) := by
    intro n
    induction n with
    | zero =>
      intro j hj   H locs hP hD hS ls hl
      have hje : nt = j := by omega
      subst hje
      refine lv_iload hx hb dX4_sum_14 (lv_at hl 0 rfl) ?_
      refine lv_iload hx hb dX4_sum_16 (lv_at hl 1 rfl) ?_
      refine lv_icmp_ge (tgt := 40) hx hb dX4_sum_18 (by decide) (fun c_18 => ?_) (fun c_18 => ?_)
      rotate_left
      · exact absurd (Int32.le_refl _) c_18
      refine lv_iload_n hx hb dX4_sum_40 rfl (lv_at hl 3 rfl) ?_
      exact e0_i hx hb hr hlocks hP hS dX4_sum_41 (by decide) (by decide) (rfl)
    | succ n ih =>
      intro j hj   H locs hP hD hS ls hl
      refine lv_iload hx hb dX4_sum_14 (lv_at hl 0 rfl) ?_
      refine lv_iload hx hb dX4_sum_16 (lv_at hl 1 rfl) ?_
      refine lv_icmp_ge (tgt := 40) hx hb dX4_sum_18 (by decide) (fun c_18 => ?_) (fun c_18 => ?_)
      · exact absurd c_18 (nI_ge (by omega) (by omega))
      refine lv_aload_n hx hb dX4_sum_21 rfl (lv_at hl 2 rfl) ?_
      refine lv_iload hx hb dX4_sum_22 (lv_at hl 0 rfl) ?_
      refine w_qldA hx hb hK hP (sm_b 4 rfl) rfl j rfl (by omega) (by omega) (v := T j) rfl dX4_sum_24 ?_
      refine lv_astore (lv' := [(6, .ref (T j)), (5, .int (nI j)), (4, .int (nI nt)), (3, .ref (S 4)), (2, .int (sumD f j)), (1, .int 2), (0, .ref (S 0))]) hx hb dX4_sum_25 hl (by decide) rfl (fun ls hl => ?_)
      refine lv_iload_n hx hb dX4_sum_27 rfl (lv_at hl 4 rfl) ?_
      refine lv_aload hx hb dX4_sum_28 (lv_at hl 0 rfl) ?_
      refine lv_iload_n hx hb dX4_sum_30 rfl (lv_at hl 5 rfl) ?_
      refine w_ildM hx hb hK hP (sm_t (by omega)) rfl 2 rfl (by decide) (by decide) (v := f (21 + 3 * j)) rfl dX4_sum_31 ?_
      refine lv_iadd hx hb dX4_sum_32 ?_
      refine lv_istore_n (lv' := [(2, .int ((sumD f j) + (f (21 + 3 * j)))), (6, .ref (T j)), (5, .int (nI j)), (4, .int (nI nt)), (3, .ref (S 4)), (1, .int 2), (0, .ref (S 0))]) hx hb dX4_sum_33 rfl hl (by decide) rfl (fun ls hl => ?_)
      refine lv_iinc (v := nI (j + 1)) (lv' := [(5, .int (nI (j + 1))), (2, .int ((sumD f j) + (f (21 + 3 * j)))), (6, .ref (T j)), (4, .int (nI nt)), (3, .ref (S 4)), (1, .int 2), (0, .ref (S 0))]) hx hb dX4_sum_34 hl (k := 2) rfl (nI_succ _).symm (by decide) rfl (fun ls hl => ?_)
      refine lv_goto (tgt := 14) hx hb dX4_sum_37 (by decide) ?_
      exact ih (j + 1) (by omega) _ _ hP hD hS _ (lv_sub hl [0, 3, 4, 1, 5, 6] rfl)
  exact lp0 nt 0 (by omega) _ _ hP hD hS _ (lv_sub hl [0, 1, 2, 3, 5, 4] rfl)
