theorem ge10 {x : Int32} (h : ¬ x ≤ 9) : 10 ≤ x := by
  rw [i_le, show (9 : Int32).toInt = 9 by decide] at h
  rw [i_le, show (10 : Int32).toInt = 10 by decide]
  omega
theorem le18 {x : Int32} (h : ¬ 19 ≤ x) : x ≤ 18 := by
  rw [i_le, show (19 : Int32).toInt = 19 by decide] at h
  rw [i_le, show (18 : Int32).toInt = 18 by decide]
  omega
theorem q4 {q : Nat} (hq : q ≤ 40) : nI q / 4 = nI (q / 4) := pk_div (d := 4) (by omega) (by decide) (by decide)
theorem sv_in {F : Nat → Int32} {nt q : Nat} (hq : q ≤ 40) (h : 10 ≤ F 0 - F 0 / 24 * 24 ∧ F 0 - F 0 / 24 * 24 ≤ 18) : rep (sell1 nt) (q / 4) F = serveF nt (nI q) F := by
  rw [serveF, if_pos h, q4 hq, nI_clamp (by omega)]
theorem sv_no {F : Nat → Int32} {nt q j : Nat} (hk : j = 0 ∨ (10 ≤ F 0 - F 0 / 24 * 24 ∧ F 0 - F 0 / 24 * 24 ≤ 18)) (ho : F 0 - F 0 / 24 * 24 ≤ 9 ∨ 19 ≤ F 0 - F 0 / 24 * 24) : rep (sell1 nt) j F = serveF nt (nI q) F := by
  have hn : ¬ (10 ≤ F 0 - F 0 / 24 * 24 ∧ F 0 - F 0 / 24 * 24 ≤ 18) := by
    rintro ⟨h1, h2⟩
    rw [i_le, show (10 : Int32).toInt = 10 by decide] at h1
    rw [i_le, show (18 : Int32).toInt = 18 by decide] at h2
    rcases ho with h | h
    · rw [i_le, show (9 : Int32).toInt = 9 by decide] at h
      omega
    · rw [i_le, show (19 : Int32).toInt = 19 by decide] at h
      omega
  rcases hk with h | h
  · subst h
    rw [serveF, if_neg hn]
    rfl
  · exact absurd h hn
theorem sv_end {F : Nat → Int32} {nt q : Nat} (hq : q ≤ 40) (hk : q / 4 = 0 ∨ (10 ≤ F 0 - F 0 / 24 * 24 ∧ F 0 - F 0 / 24 * 24 ≤ 18)) : rep (sell1 nt) (q / 4) F = serveF nt (nI q) F := by
  rcases hk with h | h
  · rw [serveF, q4 hq, nI_clamp (by omega), h]
    split <;> rfl
  · exact sv_in hq h
theorem up_id {f : Nat → Int32} {k : Nat} : upd f k (f k) = f := by
  funext j
  by_cases h : j = k <;> simp [upd, h]
theorem ic_f {F : Nat → Int32} {q : Int32} (h : ¬ F 0 - F 0 / 4 * 4 = 0) : F = ice1 q F := by
  rw [ice1, iceA, if_neg h, up_id]
theorem ic_t {F : Nat → Int32} {q : Int32} (h : F 0 - F 0 / 4 * 4 = 0) : upd F 1 (imx 0 (F 1 - q / 5)) = ice1 q F := by
  rw [ice1, iceA, if_pos h]

set_option maxHeartbeats 4000000 in
set_option maxRecDepth 100000 in
theorem mX4_pass (l : Launch) (D : va_G) (cI cC cT cL : ClassId) (S C T : Nat → Nat) (nc nt : Nat) (f g : Nat → Int32) (hnc : nc ≤ 4) (hnt : nt ≤ 6) (hI : Inv f) (hg : Gd g) (h : Nat) (hh : h < 2 ^ 30) (h0 : f 0 = nI h) : M0 l yX4_pass wsX4_pass ({ frames := 1, cells := 0, slots := 0, locals := 22 } : Room) D (TY cI cC cT cL) [.ref (S 0)] (SM cI cL S C T nc nt f g) (some (.int (hourF nc nt g f 5 - f 5))) (SM cI cL S C T nc nt (hourF nc nt g f) g) 0 0 := by
  refine M0_of (cc := cX4_pass) (maxL := 8) (ret := (some .int)) (by decide +kernel) rfl (Nat.le_of_ble_eq_true rfl) ?_
  intro p e s m args below meth c A0 B ls hl
  obtain ⟨hx, hb, hml, hr, hown, hts, hlocks, hK, hP, hD, hA, hST, hnm⟩ := B
  have hown : s.vm.findClass RX4 = some m.cls := hown
  have hS : va_S A0 s.heap s.heap [] := va_S.rf
  have hl : lv_has ls 8 [(0, .ref (S 0))] := hl
  refine lv_aload_n hx hb dX4_pass_0 rfl (lv_at hl 0 rfl) ?_
  refine c0_V (As := []) (rest := []) (ws' := SM cI cL S C T nc nt f g) ⟨hx, hb, hml, hown, hts⟩ (mX4_hot l D cI cC cT cL S C T nc nt f g h hh h0) (cwV 0 hts gX4_pass_X4_hot rfl rfl rfl pX4_hot ⟨Nat.le_of_ble_eq_true rfl, Nat.le_of_ble_eq_true rfl⟩) hK hP hD hS hA hST ((Jf_all _ _ sm_fst)).1 0 rfl rfl rfl rfl hl.1 rfl (Nat.le_of_ble_eq_true rfl) dX4_pass_1 ⟨Nat.le_of_ble_eq_true rfl, Nat.le_of_ble_eq_true rfl⟩ rfl (fun H locs hP hD hS => ?_)
  obtain ⟨q, hq, eq⟩ := of_bd (n := 40) (by decide) (hg (h / 24 % 7) (Nat.mod_lt _ (by decide)))
  have hhot : hotOf f g = nI q := by rw [hotOf, hrN, h0, nI_clamp (by omega)]; exact eq
  rw [hhot]
  refine lv_istore_n (lv' := [(1, .int (nI q)), (0, .ref (S 0))]) hx hb dX4_pass_4 rfl hl (by decide) rfl (fun ls hl => ?_)
  refine lv_aload_n hx hb dX4_pass_5 rfl (lv_at hl 1 rfl) ?_
  refine w_getM hx hb hts iX4_pass_X4 hown hK hP (sm_b 0 rfl) rfl 2 (by decide) fX4_pass_32 rfl rfl (v := .int (f 5)) dX4_pass_6 ?_
  refine lv_istore_n (lv' := [(2, .int (f 5)), (1, .int (nI q)), (0, .ref (S 0))]) hx hb dX4_pass_9 rfl hl (by decide) rfl (fun ls hl => ?_)
  refine lv_aload_n hx hb dX4_pass_10 rfl (lv_at hl 2 rfl) ?_
  refine w_getM hx hb hts iX4_pass_X4 hown hK hP (sm_b 0 rfl) rfl 5 (by decide) fX4_pass_17 rfl rfl (v := .ref (S 3)) dX4_pass_11 ?_
  refine lv_astore_n (lv' := [(3, .ref (S 3)), (2, .int (f 5)), (1, .int (nI q)), (0, .ref (S 0))]) hx hb dX4_pass_14 rfl hl (by decide) rfl (fun ls hl => ?_)
  refine lv_aload_n hx hb dX4_pass_15 rfl (lv_at hl 0 rfl) ?_
  refine w_alenA hx hb hK hP (sm_b 3 rfl) rfl dX4_pass_16 ?_
  refine lv_istore (lv' := [(4, .int (nI nc)), (3, .ref (S 3)), (2, .int (f 5)), (1, .int (nI q)), (0, .ref (S 0))]) hx hb dX4_pass_17 hl (by decide) rfl (fun ls hl => ?_)
  refine lv_iconst (v := 0) hx hb dX4_pass_19 (by decide) ?_
  refine lv_istore (lv' := [(5, .int 0), (4, .int (nI nc)), (3, .ref (S 3)), (2, .int (f 5)), (1, .int (nI q)), (0, .ref (S 0))]) hx hb dX4_pass_20 hl (by decide) rfl (fun ls hl => ?_)
  have lp0 : ∀ (n j : Nat), j + n = nc → ∀ (H : Heap) (locs : List Loc), va_P D vwCl (SM cI cL S C T nc nt (fo (turn1 (nI q)) j f) g) H → va_D A0 (SM cI cL S C T nc nt (fo (turn1 (nI q)) j f) g) → va_S A0 s.heap H locs → ∀ ls, lv_has ls 8 [(5, .int (nI j)), (4, .int (nI nc)), (3, .ref (S 3)), (2, .int (f 5)), (1, .int (nI q)), (0, .ref (S 0))] → W p l e ({ frames := 1, cells := 0, slots := 0, locals := 22 } : Room) s m args below meth c H locs 0 0 (Q0 below D (some (.int (hourF nc nt g f 5 - f 5))) (SM cI cL S C T nc nt (hourF nc nt g f) g) A0 args s 0 0) (F0 m 22 ls []) := by
    intro n
    induction n with
    | zero =>
      intro j hj   H locs hP hD hS ls hl
      have hje : nc = j := by omega
      subst hje
      refine lv_iload hx hb dX4_pass_22 (lv_at hl 0 rfl) ?_
      refine lv_iload hx hb dX4_pass_24 (lv_at hl 1 rfl) ?_
      refine lv_icmp_ge (tgt := 101) hx hb dX4_pass_26 (by decide) (fun c_26 => ?_) (fun c_26 => ?_)
      rotate_left
      · exact absurd (Int32.le_refl _) c_26
      refine lv_aload_n hx hb dX4_pass_101 rfl (lv_at hl 5 rfl) ?_
      refine w_getM hx hb hts iX4_pass_X4 hown hK hP (sm_b 0 rfl) rfl 6 (by decide) fX4_pass_21 rfl rfl (v := .ref (S 4)) dX4_pass_102 ?_
      refine lv_astore_n (lv' := [(3, .ref (S 4)), (5, .int (nI nc)), (4, .int (nI nc)), (2, .int (f 5)), (1, .int (nI q)), (0, .ref (S 0))]) hx hb dX4_pass_105 rfl hl (by decide) rfl (fun ls hl => ?_)
      refine lv_aload_n hx hb dX4_pass_106 rfl (lv_at hl 0 rfl) ?_
      refine w_alenA hx hb hK hP (sm_b 4 rfl) rfl dX4_pass_107 ?_
      refine lv_istore (lv' := [(4, .int (nI nt)), (3, .ref (S 4)), (5, .int (nI nc)), (2, .int (f 5)), (1, .int (nI q)), (0, .ref (S 0))]) hx hb dX4_pass_108 hl (by decide) rfl (fun ls hl => ?_)
      refine lv_iconst (v := 0) hx hb dX4_pass_110 (by decide) ?_
      refine lv_istore (lv' := [(5, .int 0), (4, .int (nI nt)), (3, .ref (S 4)), (2, .int (f 5)), (1, .int (nI q)), (0, .ref (S 0))]) hx hb dX4_pass_111 hl (by decide) rfl (fun ls hl => ?_)
      have lp1 : ∀ (n j : Nat), j + n = nt → ∀ (H : Heap) (locs : List Loc), va_P D vwCl (SM cI cL S C T nc nt (fo (stand1 (nI q)) j (fo (turn1 (nI q)) nc f)) g) H → va_D A0 (SM cI cL S C T nc nt (fo (stand1 (nI q)) j (fo (turn1 (nI q)) nc f)) g) → va_S A0 s.heap H locs → ∀ ls, lv_has ls 8 [(5, .int (nI j)), (4, .int (nI nt)), (3, .ref (S 4)), (2, .int (f 5)), (1, .int (nI q)), (0, .ref (S 0))] → W p l e ({ frames := 1, cells := 0, slots := 0, locals := 22 } : Room) s m args below meth c H locs 0 0 (Q0 below D (some (.int (hourF nc nt g f 5 - f 5))) (SM cI cL S C T nc nt (hourF nc nt g f) g) A0 args s 0 0) (F0 m 113 ls []) := by
        intro n
        induction n with
        | zero =>
          intro j hj   H locs hP hD hS ls hl
          have hje : nt = j := by omega
          subst hje
          refine lv_iload hx hb dX4_pass_113 (lv_at hl 0 rfl) ?_
          refine lv_iload hx hb dX4_pass_115 (lv_at hl 1 rfl) ?_
          refine lv_icmp_ge (tgt := 249) hx hb dX4_pass_117 (by decide) (fun c_117 => ?_) (fun c_117 => ?_)
          rotate_left
          · exact absurd (Int32.le_refl _) c_117
          refine lv_aload_n hx hb dX4_pass_249 rfl (lv_at hl 5 rfl) ?_
          refine w_getM hx hb hts iX4_pass_X4 hown hK hP (sm_b 0 rfl) rfl 0 (by decide) fX4_pass_24 rfl rfl (v := .int ((fo (stand1 (nI q)) nt (fo (turn1 (nI q)) nc f)) 0)) dX4_pass_250 ?_
          refine lv_bipush (v := 24) hx hb dX4_pass_253 (by decide) ?_
          refine lv_irem hx hb dX4_pass_255 (by decide) ?_
          refine lv_istore_n (lv' := [(3, .int (((fo (stand1 (nI q)) nt (fo (turn1 (nI q)) nc f)) 0) - ((fo (stand1 (nI q)) nt (fo (turn1 (nI q)) nc f)) 0) / 24 * 24)), (5, .int (nI nt)), (4, .int (nI nt)), (2, .int (f 5)), (1, .int (nI q)), (0, .ref (S 0))]) hx hb dX4_pass_256 rfl hl (by decide) rfl (fun ls hl => ?_)
          refine lv_iload_n hx hb dX4_pass_257 rfl (lv_at hl 4 rfl) ?_
          refine lv_iconst (v := 4) hx hb dX4_pass_258 (by decide) ?_
          refine lv_idiv hx hb dX4_pass_259 (by decide) ?_
          rw [q4 hq]
          refine lv_istore (lv' := [(4, .int (nI (q / 4))), (3, .int (((fo (stand1 (nI q)) nt (fo (turn1 (nI q)) nc f)) 0) - ((fo (stand1 (nI q)) nt (fo (turn1 (nI q)) nc f)) 0) / 24 * 24)), (5, .int (nI nt)), (2, .int (f 5)), (1, .int (nI q)), (0, .ref (S 0))]) hx hb dX4_pass_260 hl (by decide) rfl (fun ls hl => ?_)
          have jn383 : ∀ (H : Heap) (locs : List Loc), va_P D vwCl (SM cI cL S C T nc nt (serveF nt (nI q) (fo (stand1 (nI q)) nt (fo (turn1 (nI q)) nc f))) g) H → va_D A0 (SM cI cL S C T nc nt (serveF nt (nI q) (fo (stand1 (nI q)) nt (fo (turn1 (nI q)) nc f))) g) → va_S A0 s.heap H locs → ∀ ls, lv_has ls 8 [(2, .int (f 5)), (1, .int (nI q)), (0, .ref (S 0))] → W p l e ({ frames := 1, cells := 0, slots := 0, locals := 22 } : Room) s m args below meth c H locs 0 0 (Q0 below D (some (.int (hourF nc nt g f 5 - f 5))) (SM cI cL S C T nc nt (hourF nc nt g f) g) A0 args s 0 0) (F0 m 383 ls []) := by
            intro   H locs hP hD hS ls hl
            refine lv_aload_n hx hb dX4_pass_383 rfl (lv_at hl 2 rfl) ?_
            refine w_getM hx hb hts iX4_pass_X4 hown hK hP (sm_b 0 rfl) rfl 0 (by decide) fX4_pass_24 rfl rfl (v := .int ((serveF nt (nI q) (fo (stand1 (nI q)) nt (fo (turn1 (nI q)) nc f))) 0)) dX4_pass_384 ?_
            refine lv_iconst (v := 4) hx hb dX4_pass_387 (by decide) ?_
            have jn412 : ∀ (H : Heap) (locs : List Loc), va_P D vwCl (SM cI cL S C T nc nt (ice1 (nI q) (serveF nt (nI q) (fo (stand1 (nI q)) nt (fo (turn1 (nI q)) nc f)))) g) H → va_D A0 (SM cI cL S C T nc nt (ice1 (nI q) (serveF nt (nI q) (fo (stand1 (nI q)) nt (fo (turn1 (nI q)) nc f)))) g) → va_S A0 s.heap H locs → ∀ ls, lv_has ls 8 [(2, .int (f 5)), (1, .int (nI q)), (0, .ref (S 0))] → W p l e ({ frames := 1, cells := 0, slots := 0, locals := 22 } : Room) s m args below meth c H locs 0 0 (Q0 below D (some (.int (hourF nc nt g f 5 - f 5))) (SM cI cL S C T nc nt (hourF nc nt g f) g) A0 args s 0 0) (F0 m 412 ls []) := by
              intro   H locs hP hD hS ls hl
              refine lv_aload_n hx hb dX4_pass_412 rfl (lv_at hl 2 rfl) ?_
              refine lv_dup hx hb dX4_pass_413 rfl ?_
              refine w_getM hx hb hts iX4_pass_X4 hown hK hP (sm_b 0 rfl) rfl 0 (by decide) fX4_pass_24 rfl rfl (v := .int ((ice1 (nI q) (serveF nt (nI q) (fo (stand1 (nI q)) nt (fo (turn1 (nI q)) nc f)))) 0)) dX4_pass_414 ?_
              refine lv_iconst (v := 1) hx hb dX4_pass_417 (by decide) ?_
              refine lv_iadd hx hb dX4_pass_418 ?_
              refine w_putJ (C := RX4) (ws' := SM cI cL S C T nc nt (upd (ice1 (nI q) (serveF nt (nI q) (fo (stand1 (nI q)) nt (fo (turn1 (nI q)) nc f)))) 0 (((ice1 (nI q) (serveF nt (nI q) (fo (stand1 (nI q)) nt (fo (turn1 (nI q)) nc f)))) 0) + 1)) g) hx hb hts iX4_pass_X4 tyX4_ok nmX4 hown hK hP hD hS (J_hour (((ice1 (nI q) (serveF nt (nI q) (fo (stand1 (nI q)) nt (fo (turn1 (nI q)) nc f)))) 0) + 1)) rfl 0 (by decide) fX4_pass_24 rfl rfl rfl rfl (Nat.le_of_ble_eq_true rfl) rfl dX4_pass_419 (fun H locs hP hD hS => ?_)
              refine lv_aload_n hx hb dX4_pass_422 rfl (lv_at hl 2 rfl) ?_
              refine w_getM hx hb hts iX4_pass_X4 hown hK hP (sm_b 0 rfl) rfl 6 (by decide) fX4_pass_21 rfl rfl (v := .ref (S 4)) dX4_pass_423 ?_
              refine lv_astore (lv' := [(4, .ref (S 4)), (2, .int (f 5)), (1, .int (nI q)), (0, .ref (S 0))]) hx hb dX4_pass_426 hl (by decide) rfl (fun ls hl => ?_)
              refine lv_aload hx hb dX4_pass_428 (lv_at hl 0 rfl) ?_
              refine w_alenA hx hb hK hP (sm_b 4 rfl) rfl dX4_pass_430 ?_
              refine lv_istore (lv' := [(5, .int (nI nt)), (4, .ref (S 4)), (2, .int (f 5)), (1, .int (nI q)), (0, .ref (S 0))]) hx hb dX4_pass_431 hl (by decide) rfl (fun ls hl => ?_)
              refine lv_iconst (v := 0) hx hb dX4_pass_433 (by decide) ?_
              refine lv_istore (lv' := [(6, .int 0), (5, .int (nI nt)), (4, .ref (S 4)), (2, .int (f 5)), (1, .int (nI q)), (0, .ref (S 0))]) hx hb dX4_pass_434 hl (by decide) rfl (fun ls hl => ?_)
              have lp2 : ∀ (n j : Nat), j + n = nt → ∀ (H : Heap) (locs : List Loc), va_P D vwCl (SM cI cL S C T nc nt (fo forg1 j (upd (ice1 (nI q) (serveF nt (nI q) (fo (stand1 (nI q)) nt (fo (turn1 (nI q)) nc f)))) 0 ((ice1 (nI q) (serveF nt (nI q) (fo (stand1 (nI q)) nt (fo (turn1 (nI q)) nc f)))) 0 + 1))) g) H → va_D A0 (SM cI cL S C T nc nt (fo forg1 j (upd (ice1 (nI q) (serveF nt (nI q) (fo (stand1 (nI q)) nt (fo (turn1 (nI q)) nc f)))) 0 ((ice1 (nI q) (serveF nt (nI q) (fo (stand1 (nI q)) nt (fo (turn1 (nI q)) nc f)))) 0 + 1))) g) → va_S A0 s.heap H locs → ∀ ls, lv_has ls 8 [(6, .int (nI j)), (5, .int (nI nt)), (4, .ref (S 4)), (2, .int (f 5)), (1, .int (nI q)), (0, .ref (S 0))] → W p l e ({ frames := 1, cells := 0, slots := 0, locals := 22 } : Room) s m args below meth c H locs 0 0 (Q0 below D (some (.int (hourF nc nt g f 5 - f 5))) (SM cI cL S C T nc nt (hourF nc nt g f) g) A0 args s 0 0) (F0 m 436 ls []) := by
                intro n
                induction n with
                | zero =>
                  intro j hj   H locs hP hD hS ls hl
                  have hje : nt = j := by omega
                  subst hje
                  refine lv_iload hx hb dX4_pass_436 (lv_at hl 0 rfl) ?_
                  refine lv_iload hx hb dX4_pass_438 (lv_at hl 1 rfl) ?_
                  refine lv_icmp_ge (tgt := 468) hx hb dX4_pass_440 (by decide) (fun c_440 => ?_) (fun c_440 => ?_)
                  rotate_left
                  · exact absurd (Int32.le_refl _) c_440
                  refine lv_aload_n hx hb dX4_pass_468 rfl (lv_at hl 5 rfl) ?_
                  refine w_getM hx hb hts iX4_pass_X4 hown hK hP (sm_b 0 rfl) rfl 2 (by decide) fX4_pass_32 rfl rfl (v := .int ((fo forg1 nt (upd (ice1 (nI q) (serveF nt (nI q) (fo (stand1 (nI q)) nt (fo (turn1 (nI q)) nc f)))) 0 ((ice1 (nI q) (serveF nt (nI q) (fo (stand1 (nI q)) nt (fo (turn1 (nI q)) nc f)))) 0 + 1))) 5)) dX4_pass_469 ?_
                  refine lv_iload_n hx hb dX4_pass_472 rfl (lv_at hl 3 rfl) ?_
                  refine lv_isub hx hb dX4_pass_473 ?_
                  exact e0_i hx hb hr hlocks (P_eq (by rw [hourF, hhot]; rfl) hP) hS dX4_pass_474 (by decide) (by decide) (by rw [hourF, hhot]; rfl)
                | succ n ih =>
                  intro j hj   H locs hP hD hS ls hl
                  refine lv_iload hx hb dX4_pass_436 (lv_at hl 0 rfl) ?_
                  refine lv_iload hx hb dX4_pass_438 (lv_at hl 1 rfl) ?_
                  refine lv_icmp_ge (tgt := 468) hx hb dX4_pass_440 (by decide) (fun c_440 => ?_) (fun c_440 => ?_)
                  · exact absurd c_440 (nI_ge (by omega) (by omega))
                  refine lv_aload hx hb dX4_pass_443 (lv_at hl 2 rfl) ?_
                  refine lv_iload hx hb dX4_pass_445 (lv_at hl 0 rfl) ?_
                  refine w_qldA hx hb hK hP (sm_b 4 rfl) rfl j rfl (by omega) (by omega) (v := T j) rfl dX4_pass_447 ?_
                  refine lv_astore (lv' := [(7, .ref (T j)), (6, .int (nI j)), (5, .int (nI nt)), (4, .ref (S 4)), (2, .int (f 5)), (1, .int (nI q)), (0, .ref (S 0))]) hx hb dX4_pass_448 hl (by decide) rfl (fun ls hl => ?_)
                  refine lv_aload hx hb dX4_pass_450 (lv_at hl 0 rfl) ?_
                  refine lv_iconst (v := 0) hx hb dX4_pass_452 (by decide) ?_
                  refine w_ildM hx hb hK hP (sm_t (by omega)) rfl 0 rfl (by decide) (by decide) (v := (fo forg1 j (upd (ice1 (nI q) (serveF nt (nI q) (fo (stand1 (nI q)) nt (fo (turn1 (nI q)) nc f)))) 0 ((ice1 (nI q) (serveF nt (nI q) (fo (stand1 (nI q)) nt (fo (turn1 (nI q)) nc f)))) 0 + 1))) (19 + 3 * j)) rfl dX4_pass_453 ?_
                  refine lv_if_ne (tgt := 462) hx hb dX4_pass_454 (by decide) (fun c_454 => ?_) (fun c_454 => ?_)
                  ·
                    refine lv_iinc (v := nI (j + 1)) (lv' := [(6, .int (nI (j + 1))), (7, .ref (T j)), (5, .int (nI nt)), (4, .ref (S 4)), (2, .int (f 5)), (1, .int (nI q)), (0, .ref (S 0))]) hx hb dX4_pass_462 hl (k := 1) rfl (nI_succ _).symm (by decide) rfl (fun ls hl => ?_)
                    refine lv_goto (tgt := 436) hx hb dX4_pass_465 (by decide) ?_
                    have eT : (fo forg1 j (upd (ice1 (nI q) (serveF nt (nI q) (fo (stand1 (nI q)) nt (fo (turn1 (nI q)) nc f)))) 0 ((ice1 (nI q) (serveF nt (nI q) (fo (stand1 (nI q)) nt (fo (turn1 (nI q)) nc f)))) 0 + 1))) = forg1 j (fo forg1 j (upd (ice1 (nI q) (serveF nt (nI q) (fo (stand1 (nI q)) nt (fo (turn1 (nI q)) nc f)))) 0 ((ice1 (nI q) (serveF nt (nI q) (fo (stand1 (nI q)) nt (fo (turn1 (nI q)) nc f)))) 0 + 1))) := fg_eq0 c_454
                    exact ih (j + 1) (by omega) _ _ (P_eq (congrArg (fun F9 => SM cI cL S C T nc nt F9 g) eT) hP) (D_fst sm_fst hD) hS _ (lv_sub hl [0, 2, 3, 4, 5, 6] rfl)
                  ·
                    refine lv_aload hx hb dX4_pass_457 (lv_at hl 0 rfl) ?_
                    refine lv_iconst (v := 1) hx hb dX4_pass_459 (by decide) ?_
                    refine lv_iconst (v := 0) hx hb dX4_pass_460 (by decide) ?_
                    refine w_istJ (ws' := SM cI cL S C T nc nt (set3 (fo forg1 j (upd (ice1 (nI q) (serveF nt (nI q) (fo (stand1 (nI q)) nt (fo (turn1 (nI q)) nc f)))) 0 ((ice1 (nI q) (serveF nt (nI q) (fo (stand1 (nI q)) nt (fo (turn1 (nI q)) nc f)))) 0 + 1))) (19 + 3 * j) ((fo forg1 j (upd (ice1 (nI q) (serveF nt (nI q) (fo (stand1 (nI q)) nt (fo (turn1 (nI q)) nc f)))) 0 ((ice1 (nI q) (serveF nt (nI q) (fo (stand1 (nI q)) nt (fo (turn1 (nI q)) nc f)))) 0 + 1))) (19 + 3 * j)) 0 ((fo forg1 j (upd (ice1 (nI q) (serveF nt (nI q) (fo (stand1 (nI q)) nt (fo (turn1 (nI q)) nc f)))) 0 ((ice1 (nI q) (serveF nt (nI q) (fo (stand1 (nI q)) nt (fo (turn1 (nI q)) nc f)))) 0 + 1))) (21 + 3 * j))) g) hx hb hK hP hD hS 1 (J_tw1 hnc (by omega) 0 rfl rfl) rfl rfl (by decide) (by decide) dX4_pass_461 (fun H locs hP hD hS => ?_)
                    refine lv_iinc (v := nI (j + 1)) (lv' := [(6, .int (nI (j + 1))), (7, .ref (T j)), (5, .int (nI nt)), (4, .ref (S 4)), (2, .int (f 5)), (1, .int (nI q)), (0, .ref (S 0))]) hx hb dX4_pass_462 hl (k := 1) rfl (nI_succ _).symm (by decide) rfl (fun ls hl => ?_)
                    refine lv_goto (tgt := 436) hx hb dX4_pass_465 (by decide) ?_
                    have eT : (set3 (fo forg1 j (upd (ice1 (nI q) (serveF nt (nI q) (fo (stand1 (nI q)) nt (fo (turn1 (nI q)) nc f)))) 0 ((ice1 (nI q) (serveF nt (nI q) (fo (stand1 (nI q)) nt (fo (turn1 (nI q)) nc f)))) 0 + 1))) (19 + 3 * j) ((fo forg1 j (upd (ice1 (nI q) (serveF nt (nI q) (fo (stand1 (nI q)) nt (fo (turn1 (nI q)) nc f)))) 0 ((ice1 (nI q) (serveF nt (nI q) (fo (stand1 (nI q)) nt (fo (turn1 (nI q)) nc f)))) 0 + 1))) (19 + 3 * j)) 0 ((fo forg1 j (upd (ice1 (nI q) (serveF nt (nI q) (fo (stand1 (nI q)) nt (fo (turn1 (nI q)) nc f)))) 0 ((ice1 (nI q) (serveF nt (nI q) (fo (stand1 (nI q)) nt (fo (turn1 (nI q)) nc f)))) 0 + 1))) (21 + 3 * j))) = forg1 j (fo forg1 j (upd (ice1 (nI q) (serveF nt (nI q) (fo (stand1 (nI q)) nt (fo (turn1 (nI q)) nc f)))) 0 ((ice1 (nI q) (serveF nt (nI q) (fo (stand1 (nI q)) nt (fo (turn1 (nI q)) nc f)))) 0 + 1))) := fg_eq c_454
                    exact ih (j + 1) (by omega) _ _ (P_eq (congrArg (fun F9 => SM cI cL S C T nc nt F9 g) eT) hP) (D_fst sm_fst hD) hS _ (lv_sub hl [0, 2, 3, 4, 5, 6] rfl)
              exact lp2 nt 0 (by omega) _ _ hP hD hS _ (lv_sub hl [0, 1, 2, 3, 4, 5] rfl)
            refine lv_irem hx hb dX4_pass_388 (by decide) ?_
            refine lv_if_ne (tgt := 412) hx hb dX4_pass_389 (by decide) (fun c_389 => ?_) (fun c_389 => ?_)
            ·
              have eT : (serveF nt (nI q) (fo (stand1 (nI q)) nt (fo (turn1 (nI q)) nc f))) = (ice1 (nI q) (serveF nt (nI q) (fo (stand1 (nI q)) nt (fo (turn1 (nI q)) nc f)))) := (ic_f c_389)
              exact jn412  _ _ (P_eq (congrArg (fun F9 => SM cI cL S C T nc nt F9 g) eT) hP) (D_fst sm_fst hD) hS _ (lv_sub hl [0, 1, 2] rfl)
            ·
              refine lv_aload_n hx hb dX4_pass_392 rfl (lv_at hl 2 rfl) ?_
              refine w_getM hx hb hts iX4_pass_X4 hown hK hP (sm_b 0 rfl) rfl 1 (by decide) fX4_pass_7 rfl rfl (v := .ref (S 1)) dX4_pass_393 ?_
              refine lv_iconst (v := 0) hx hb dX4_pass_396 (by decide) ?_
              refine lv_iconst (v := 0) hx hb dX4_pass_397 (by decide) ?_
              refine lv_aload_n hx hb dX4_pass_398 rfl (lv_at hl 2 rfl) ?_
              refine w_getM hx hb hts iX4_pass_X4 hown hK hP (sm_b 0 rfl) rfl 1 (by decide) fX4_pass_7 rfl rfl (v := .ref (S 1)) dX4_pass_399 ?_
              refine lv_iconst (v := 0) hx hb dX4_pass_402 (by decide) ?_
              refine w_ildM hx hb hK hP (sm_b 1 rfl) rfl 0 rfl (by decide) (by decide) (v := (serveF nt (nI q) (fo (stand1 (nI q)) nt (fo (turn1 (nI q)) nc f))) 1) rfl dX4_pass_403 ?_
              refine lv_iload_n hx hb dX4_pass_404 rfl (lv_at hl 1 rfl) ?_
              refine lv_iconst (v := 5) hx hb dX4_pass_405 (by decide) ?_
              refine lv_idiv hx hb dX4_pass_406 (by decide) ?_
              refine lv_isub hx hb dX4_pass_407 ?_
              refine w_mmax hx hb (hml.trans hl.1.symm) hown (hts _ mlX4_pass_41) (hts _ msX4_pass_max) (hts _ miX4_pass) (hts _ mcX4_pass_max) (Nat.le_of_ble_eq_true rfl) (Nat.le_of_ble_eq_true rfl) (Nat.le_of_ble_eq_true rfl) (Nat.le_of_ble_eq_true rfl) dX4_pass_408 ?_
              refine w_istJ (ws' := SM cI cL S C T nc nt (upd (serveF nt (nI q) (fo (stand1 (nI q)) nt (fo (turn1 (nI q)) nc f))) 1 (imx 0 (((serveF nt (nI q) (fo (stand1 (nI q)) nt (fo (turn1 (nI q)) nc f))) 1) - ((nI q) / 5)))) g) hx hb hK hP hD hS 0 (J_store 0 (by decide) (imx 0 (((serveF nt (nI q) (fo (stand1 (nI q)) nt (fo (turn1 (nI q)) nc f))) 1) - ((nI q) / 5)))) rfl rfl (by decide) (by decide) dX4_pass_411 (fun H locs hP hD hS => ?_)
              have eT : (upd (serveF nt (nI q) (fo (stand1 (nI q)) nt (fo (turn1 (nI q)) nc f))) 1 (imx 0 (((serveF nt (nI q) (fo (stand1 (nI q)) nt (fo (turn1 (nI q)) nc f))) 1) - ((nI q) / 5)))) = (ice1 (nI q) (serveF nt (nI q) (fo (stand1 (nI q)) nt (fo (turn1 (nI q)) nc f)))) := (ic_t c_389)
              exact jn412  _ _ (P_eq (congrArg (fun F9 => SM cI cL S C T nc nt F9 g) eT) hP) (D_fst sm_fst hD) hS _ (lv_sub hl [0, 1, 2] rfl)
          have lp3 : ∀ (n j : Nat), j + n = q / 4 → ∀ (kv : Int32), (kv = nI n) → (j = 0 ∨ (10 ≤ (fo (stand1 (nI q)) nt (fo (turn1 (nI q)) nc f)) 0 - (fo (stand1 (nI q)) nt (fo (turn1 (nI q)) nc f)) 0 / 24 * 24 ∧ (fo (stand1 (nI q)) nt (fo (turn1 (nI q)) nc f)) 0 - (fo (stand1 (nI q)) nt (fo (turn1 (nI q)) nc f)) 0 / 24 * 24 ≤ 18)) → ∀ (H : Heap) (locs : List Loc), va_P D vwCl (SM cI cL S C T nc nt (rep (sell1 nt) j (fo (stand1 (nI q)) nt (fo (turn1 (nI q)) nc f))) g) H → va_D A0 (SM cI cL S C T nc nt (rep (sell1 nt) j (fo (stand1 (nI q)) nt (fo (turn1 (nI q)) nc f))) g) → va_S A0 s.heap H locs → ∀ ls, lv_has ls 8 [(4, .int kv), (3, .int ((fo (stand1 (nI q)) nt (fo (turn1 (nI q)) nc f)) 0 - (fo (stand1 (nI q)) nt (fo (turn1 (nI q)) nc f)) 0 / 24 * 24)), (2, .int (f 5)), (1, .int (nI q)), (0, .ref (S 0))] → W p l e ({ frames := 1, cells := 0, slots := 0, locals := 22 } : Room) s m args below meth c H locs 0 0 (Q0 below D (some (.int (hourF nc nt g f 5 - f 5))) (SM cI cL S C T nc nt (hourF nc nt g f) g) A0 args s 0 0) (F0 m 262 ls []) := by
            intro n
            induction n with
            | zero =>
              intro j hj kv hkv hk H locs hP hD hS ls hl
              have hje : q / 4 = j := by omega
              subst hje
              refine lv_iload hx hb dX4_pass_262 (lv_at hl 0 rfl) ?_
              refine lv_if_le (tgt := 383) hx hb dX4_pass_264 (by decide) (fun c_264 => ?_) (fun c_264 => ?_)
              rotate_left
              · exact absurd (by rw [hkv]; decide) c_264
              have eT : (rep (sell1 nt) (q / 4) (fo (stand1 (nI q)) nt (fo (turn1 (nI q)) nc f))) = (serveF nt (nI q) (fo (stand1 (nI q)) nt (fo (turn1 (nI q)) nc f))) := (sv_end hq hk)
              exact jn383  _ _ (P_eq (congrArg (fun F9 => SM cI cL S C T nc nt F9 g) eT) hP) (D_fst sm_fst hD) hS _ (lv_sub hl [2, 3, 4] rfl)
            | succ n ih =>
              intro j hj kv hkv hk H locs hP hD hS ls hl
              have hIF : Inv (rep (sell1 nt) j (fo (stand1 (nI q)) nt (fo (turn1 (nI q)) nc f))) := Inv.rep_ (fun f h => h.sell hnt) (Inv.fo_ (N := 6) (fun f i hi h => h.stand (bd_n (n := 40) hq (by decide)) hi) (Inv.fo_ (N := 4) (fun f i hi h => h.turn (bd_n (n := 40) hq (by decide)) hi) hI nc hnc) nt hnt) j
              refine lv_iload hx hb dX4_pass_262 (lv_at hl 0 rfl) ?_
              refine lv_if_le (tgt := 383) hx hb dX4_pass_264 (by decide) (fun c_264 => ?_) (fun c_264 => ?_)
              · exact absurd c_264 (by rw [hkv]; exact nI_nle (by omega) (by omega))
              refine lv_iload_n hx hb dX4_pass_267 rfl (lv_at hl 1 rfl) ?_
              refine lv_bipush (v := 9) hx hb dX4_pass_268 (by decide) ?_
              refine lv_icmp_le (tgt := 383) hx hb dX4_pass_270 (by decide) (fun c_270 => ?_) (fun c_270 => ?_)
              ·
                have eT : (rep (sell1 nt) j (fo (stand1 (nI q)) nt (fo (turn1 (nI q)) nc f))) = (serveF nt (nI q) (fo (stand1 (nI q)) nt (fo (turn1 (nI q)) nc f))) := (sv_no (q := q) hk (Or.inl c_270))
                exact jn383  _ _ (P_eq (congrArg (fun F9 => SM cI cL S C T nc nt F9 g) eT) hP) (D_fst sm_fst hD) hS _ (lv_sub hl [2, 3, 4] rfl)
              ·
                refine lv_iload_n hx hb dX4_pass_273 rfl (lv_at hl 1 rfl) ?_
                refine lv_bipush (v := 19) hx hb dX4_pass_274 (by decide) ?_
                refine lv_icmp_ge (tgt := 383) hx hb dX4_pass_276 (by decide) (fun c_276 => ?_) (fun c_276 => ?_)
                ·
                  have eT : (rep (sell1 nt) j (fo (stand1 (nI q)) nt (fo (turn1 (nI q)) nc f))) = (serveF nt (nI q) (fo (stand1 (nI q)) nt (fo (turn1 (nI q)) nc f))) := (sv_no (q := q) hk (Or.inr c_276))
                  exact jn383  _ _ (P_eq (congrArg (fun F9 => SM cI cL S C T nc nt F9 g) eT) hP) (D_fst sm_fst hD) hS _ (lv_sub hl [2, 3, 4] rfl)
                ·
                  refine lv_aload_n hx hb dX4_pass_279 rfl (lv_at hl 4 rfl) ?_
                  refine c0_V (As := []) (rest := []) (ws' := SM cI cL S C T nc nt (rep (sell1 nt) j (fo (stand1 (nI q)) nt (fo (turn1 (nI q)) nc f))) g) ⟨hx, hb, hml, hown, hts⟩ (mX4_next l D cI cC cT cL S C T nc nt (rep (sell1 nt) j (fo (stand1 (nI q)) nt (fo (turn1 (nI q)) nc f))) g hnt) (cwV 0 hts gX4_pass_X4_next rfl rfl rfl pX4_next ⟨Nat.le_of_ble_eq_true rfl, Nat.le_of_ble_eq_true rfl⟩) hK hP hD hS hA hST ((Jf_all _ _ sm_fst)).1 0 rfl rfl rfl rfl hl.1 rfl (Nat.le_of_ble_eq_true rfl) dX4_pass_280 ⟨Nat.le_of_ble_eq_true rfl, Nat.le_of_ble_eq_true rfl⟩ rfl (fun H locs hP hD hS => ?_)
                  refine lv_istore (lv' := [(5, .int (nxt (rep (sell1 nt) j (fo (stand1 (nI q)) nt (fo (turn1 (nI q)) nc f))) nt)), (4, .int kv), (3, .int ((fo (stand1 (nI q)) nt (fo (turn1 (nI q)) nc f)) 0 - (fo (stand1 (nI q)) nt (fo (turn1 (nI q)) nc f)) 0 / 24 * 24)), (2, .int (f 5)), (1, .int (nI q)), (0, .ref (S 0))]) hx hb dX4_pass_283 hl (by decide) rfl (fun ls hl => ?_)
                  refine lv_iload hx hb dX4_pass_285 (lv_at hl 0 rfl) ?_
                  refine lv_if_lt (tgt := 300) hx hb dX4_pass_287 (by decide) (fun c_287 => ?_) (fun c_287 => ?_)
                  ·
                    refine lv_aload_n hx hb dX4_pass_300 rfl (lv_at hl 5 rfl) ?_
                    refine lv_dup hx hb dX4_pass_301 rfl ?_
                    refine w_getM hx hb hts iX4_pass_X4 hown hK hP (sm_b 0 rfl) rfl 3 (by decide) fX4_pass_38 rfl rfl (v := .int ((rep (sell1 nt) j (fo (stand1 (nI q)) nt (fo (turn1 (nI q)) nc f))) 6)) dX4_pass_302 ?_
                    refine lv_iconst (v := 1) hx hb dX4_pass_305 (by decide) ?_
                    refine lv_iadd hx hb dX4_pass_306 ?_
                    refine w_putJ (C := RX4) (ws' := SM cI cL S C T nc nt (upd (rep (sell1 nt) j (fo (stand1 (nI q)) nt (fo (turn1 (nI q)) nc f))) 6 (((rep (sell1 nt) j (fo (stand1 (nI q)) nt (fo (turn1 (nI q)) nc f))) 6) + 1)) g) hx hb hts iX4_pass_X4 tyX4_ok nmX4 hown hK hP hD hS (J_away (((rep (sell1 nt) j (fo (stand1 (nI q)) nt (fo (turn1 (nI q)) nc f))) 6) + 1)) rfl 3 (by decide) fX4_pass_38 rfl rfl rfl rfl (Nat.le_of_ble_eq_true rfl) rfl dX4_pass_307 (fun H locs hP hD hS => ?_)
                    refine lv_goto (tgt := 377) hx hb dX4_pass_310 (by decide) ?_
                    refine lv_iinc (v := nI n) (lv' := [(4, .int (nI n)), (5, .int (nxt (rep (sell1 nt) j (fo (stand1 (nI q)) nt (fo (turn1 (nI q)) nc f))) nt)), (3, .int ((fo (stand1 (nI q)) nt (fo (turn1 (nI q)) nc f)) 0 - (fo (stand1 (nI q)) nt (fo (turn1 (nI q)) nc f)) 0 / 24 * 24)), (2, .int (f 5)), (1, .int (nI q)), (0, .ref (S 0))]) hx hb dX4_pass_377 hl (k := 1) rfl (by rw [hkv]; exact pk_m1 n) (by decide) rfl (fun ls hl => ?_)
                    refine lv_goto (tgt := 262) hx hb dX4_pass_380 (by decide) ?_
                    have eT : (upd (rep (sell1 nt) j (fo (stand1 (nI q)) nt (fo (turn1 (nI q)) nc f))) 6 (((rep (sell1 nt) j (fo (stand1 (nI q)) nt (fo (turn1 (nI q)) nc f))) 6) + 1)) = sell1 nt (rep (sell1 nt) j (fo (stand1 (nI q)) nt (fo (turn1 (nI q)) nc f))) := (se_1 (Or.inl (nxt_m1 hnt c_287)))
                    exact ih (j + 1) (by omega) _ rfl (Or.inr ⟨ge10 c_270, le18 c_276⟩) _ _ (P_eq (congrArg (fun F9 => SM cI cL S C T nc nt F9 g) eT) hP) (D_fst sm_fst hD) hS _ (lv_sub hl [0, 2, 3, 4, 5] rfl)
                  ·
                    obtain ⟨k, hkn, ek, hs0⟩ := nxt_go hnt c_287
                    refine lv_aload_n hx hb dX4_pass_290 rfl (lv_at hl 5 rfl) ?_
                    refine w_getM hx hb hts iX4_pass_X4 hown hK hP (sm_b 0 rfl) rfl 1 (by decide) fX4_pass_7 rfl rfl (v := .ref (S 1)) dX4_pass_291 ?_
                    refine lv_iconst (v := 3) hx hb dX4_pass_294 (by decide) ?_
                    refine w_ildM hx hb hK hP (sm_b 1 rfl) rfl 3 rfl (by decide) (by decide) (v := (rep (sell1 nt) j (fo (stand1 (nI q)) nt (fo (turn1 (nI q)) nc f))) 4) rfl dX4_pass_295 ?_
                    refine lv_iconst (v := 1) hx hb dX4_pass_296 (by decide) ?_
                    refine lv_icmp_ge (tgt := 313) hx hb dX4_pass_297 (by decide) (fun c_297 => ?_) (fun c_297 => ?_)
                    ·
                      refine lv_aload_n hx hb dX4_pass_313 rfl (lv_at hl 5 rfl) ?_
                      refine w_getM hx hb hts iX4_pass_X4 hown hK hP (sm_b 0 rfl) rfl 1 (by decide) fX4_pass_7 rfl rfl (v := .ref (S 1)) dX4_pass_314 ?_
                      refine lv_iconst (v := 3) hx hb dX4_pass_317 (by decide) ?_
                      refine lv_dup2_11 hx hb dX4_pass_318 rfl rfl ?_
                      refine w_ildM hx hb hK hP (sm_b 1 rfl) rfl 3 rfl (by decide) (by decide) (v := (rep (sell1 nt) j (fo (stand1 (nI q)) nt (fo (turn1 (nI q)) nc f))) 4) rfl dX4_pass_319 ?_
                      refine lv_iconst (v := 1) hx hb dX4_pass_320 (by decide) ?_
                      refine lv_isub hx hb dX4_pass_321 ?_
                      refine w_istJ (ws' := SM cI cL S C T nc nt (upd (rep (sell1 nt) j (fo (stand1 (nI q)) nt (fo (turn1 (nI q)) nc f))) 4 (((rep (sell1 nt) j (fo (stand1 (nI q)) nt (fo (turn1 (nI q)) nc f))) 4) - 1)) g) hx hb hK hP hD hS 3 (J_store 3 (by decide) (((rep (sell1 nt) j (fo (stand1 (nI q)) nt (fo (turn1 (nI q)) nc f))) 4) - 1)) rfl rfl (by decide) (by decide) dX4_pass_322 (fun H locs hP hD hS => ?_)
                      refine lv_aload_n hx hb dX4_pass_323 rfl (lv_at hl 5 rfl) ?_
                      refine w_getM hx hb hts iX4_pass_X4 hown hK hP (sm_b 0 rfl) rfl 6 (by decide) fX4_pass_21 rfl rfl (v := .ref (S 4)) dX4_pass_324 ?_
                      refine lv_iload hx hb dX4_pass_327 (lv_at hl 0 rfl) ?_
                      refine w_qldA hx hb hK hP (sm_b 4 rfl) rfl k ek hkn (by omega) (v := T k) rfl dX4_pass_329 ?_
                      refine lv_iconst (v := 0) hx hb dX4_pass_330 (by decide) ?_
                      refine lv_dup2_11 hx hb dX4_pass_331 rfl rfl ?_
                      refine w_ildM hx hb hK hP (sm_t hkn) rfl 0 rfl (by decide) (by decide) (v := (rep (sell1 nt) j (fo (stand1 (nI q)) nt (fo (turn1 (nI q)) nc f))) (19 + 3 * k)) (up_o (by omega)) dX4_pass_332 ?_
                      refine lv_iconst (v := 1) hx hb dX4_pass_333 (by decide) ?_
                      refine lv_isub hx hb dX4_pass_334 ?_
                      refine w_istJ (ws' := SM cI cL S C T nc nt (set3 (upd (rep (sell1 nt) j (fo (stand1 (nI q)) nt (fo (turn1 (nI q)) nc f))) 4 (((rep (sell1 nt) j (fo (stand1 (nI q)) nt (fo (turn1 (nI q)) nc f))) 4) - 1)) (19 + 3 * k) (((rep (sell1 nt) j (fo (stand1 (nI q)) nt (fo (turn1 (nI q)) nc f))) (19 + 3 * k)) - 1) ((rep (sell1 nt) j (fo (stand1 (nI q)) nt (fo (turn1 (nI q)) nc f))) (20 + 3 * k)) ((rep (sell1 nt) j (fo (stand1 (nI q)) nt (fo (turn1 (nI q)) nc f))) (21 + 3 * k))) g) hx hb hK hP hD hS 0 (J_tw0 hnc hkn (((rep (sell1 nt) j (fo (stand1 (nI q)) nt (fo (turn1 (nI q)) nc f))) (19 + 3 * k)) - 1) (up_o (by omega)) (up_o (by omega))) rfl rfl (by decide) (by decide) dX4_pass_335 (fun H locs hP hD hS => ?_)
                      refine lv_aload_n hx hb dX4_pass_336 rfl (lv_at hl 5 rfl) ?_
                      refine w_getM hx hb hts iX4_pass_X4 hown hK hP (sm_b 0 rfl) rfl 6 (by decide) fX4_pass_21 rfl rfl (v := .ref (S 4)) dX4_pass_337 ?_
                      refine lv_iload hx hb dX4_pass_340 (lv_at hl 0 rfl) ?_
                      refine w_qldA hx hb hK hP (sm_b 4 rfl) rfl k ek hkn (by omega) (v := T k) rfl dX4_pass_342 ?_
                      refine lv_iconst (v := 2) hx hb dX4_pass_343 (by decide) ?_
                      refine lv_dup2_11 hx hb dX4_pass_344 rfl rfl ?_
                      refine w_ildM hx hb hK hP (sm_t hkn) rfl 2 rfl (by decide) (by decide) (v := (rep (sell1 nt) j (fo (stand1 (nI q)) nt (fo (turn1 (nI q)) nc f))) (21 + 3 * k)) (s19_2) dX4_pass_345 ?_
                      refine lv_iconst (v := 1) hx hb dX4_pass_346 (by decide) ?_
                      refine lv_iadd hx hb dX4_pass_347 ?_
                      refine w_istJ (ws' := SM cI cL S C T nc nt (set3 (upd (rep (sell1 nt) j (fo (stand1 (nI q)) nt (fo (turn1 (nI q)) nc f))) 4 (((rep (sell1 nt) j (fo (stand1 (nI q)) nt (fo (turn1 (nI q)) nc f))) 4) - 1)) (19 + 3 * k) (((rep (sell1 nt) j (fo (stand1 (nI q)) nt (fo (turn1 (nI q)) nc f))) (19 + 3 * k)) - 1) ((rep (sell1 nt) j (fo (stand1 (nI q)) nt (fo (turn1 (nI q)) nc f))) (20 + 3 * k)) (((rep (sell1 nt) j (fo (stand1 (nI q)) nt (fo (turn1 (nI q)) nc f))) (21 + 3 * k)) + 1)) g) hx hb hK hP hD hS 2 (J_t2 hnc hkn (((rep (sell1 nt) j (fo (stand1 (nI q)) nt (fo (turn1 (nI q)) nc f))) (21 + 3 * k)) + 1)) rfl rfl (by decide) (by decide) dX4_pass_348 (fun H locs hP hD hS => ?_)
                      refine lv_aload_n hx hb dX4_pass_349 rfl (lv_at hl 5 rfl) ?_
                      refine lv_dup hx hb dX4_pass_350 rfl ?_
                      refine w_getM hx hb hts iX4_pass_X4 hown hK hP (sm_b 0 rfl) rfl 2 (by decide) fX4_pass_32 rfl (congrArg (fun v9 => some (Value.int v9)) (Eq.trans (s3_o (by omega)) (up_o (by decide)))) (v := .int ((rep (sell1 nt) j (fo (stand1 (nI q)) nt (fo (turn1 (nI q)) nc f))) 5)) dX4_pass_351 ?_
                      refine lv_aload_n hx hb dX4_pass_354 rfl (lv_at hl 5 rfl) ?_
                      refine w_getM hx hb hts iX4_pass_X4 hown hK hP (sm_b 0 rfl) rfl 6 (by decide) fX4_pass_21 rfl rfl (v := .ref (S 4)) dX4_pass_355 ?_
                      refine lv_iload hx hb dX4_pass_358 (lv_at hl 0 rfl) ?_
                      refine w_qldA hx hb hK hP (sm_b 4 rfl) rfl k ek hkn (by omega) (v := T k) rfl dX4_pass_360 ?_
                      refine lv_iconst (v := 1) hx hb dX4_pass_361 (by decide) ?_
                      refine w_ildM hx hb hK hP (sm_t hkn) rfl 1 rfl (by decide) (by decide) (v := (rep (sell1 nt) j (fo (stand1 (nI q)) nt (fo (turn1 (nI q)) nc f))) (20 + 3 * k)) (s19_1) dX4_pass_362 ?_
                      refine lv_bipush (v := 50) hx hb dX4_pass_363 (by decide) ?_
                      refine lv_icmp_lt (tgt := 372) hx hb dX4_pass_365 (by decide) (fun c_365 => ?_) (fun c_365 => ?_)
                      ·
                        refine lv_iconst (v := 3) hx hb dX4_pass_372 (by decide) ?_
                        refine lv_iadd hx hb dX4_pass_373 ?_
                        refine w_putJ (C := RX4) (ws' := SM cI cL S C T nc nt (upd (set3 (upd (rep (sell1 nt) j (fo (stand1 (nI q)) nt (fo (turn1 (nI q)) nc f))) 4 (((rep (sell1 nt) j (fo (stand1 (nI q)) nt (fo (turn1 (nI q)) nc f))) 4) - 1)) (19 + 3 * k) (((rep (sell1 nt) j (fo (stand1 (nI q)) nt (fo (turn1 (nI q)) nc f))) (19 + 3 * k)) - 1) ((rep (sell1 nt) j (fo (stand1 (nI q)) nt (fo (turn1 (nI q)) nc f))) (20 + 3 * k)) (((rep (sell1 nt) j (fo (stand1 (nI q)) nt (fo (turn1 (nI q)) nc f))) (21 + 3 * k)) + 1)) 5 (((rep (sell1 nt) j (fo (stand1 (nI q)) nt (fo (turn1 (nI q)) nc f))) 5) + 3)) g) hx hb hts iX4_pass_X4 tyX4_ok nmX4 hown hK hP hD hS (J_coins (((rep (sell1 nt) j (fo (stand1 (nI q)) nt (fo (turn1 (nI q)) nc f))) 5) + 3)) rfl 2 (by decide) fX4_pass_32 rfl rfl rfl rfl (Nat.le_of_ble_eq_true rfl) rfl dX4_pass_374 (fun H locs hP hD hS => ?_)
                        refine lv_iinc (v := nI n) (lv' := [(4, .int (nI n)), (5, .int (nxt (rep (sell1 nt) j (fo (stand1 (nI q)) nt (fo (turn1 (nI q)) nc f))) nt)), (3, .int ((fo (stand1 (nI q)) nt (fo (turn1 (nI q)) nc f)) 0 - (fo (stand1 (nI q)) nt (fo (turn1 (nI q)) nc f)) 0 / 24 * 24)), (2, .int (f 5)), (1, .int (nI q)), (0, .ref (S 0))]) hx hb dX4_pass_377 hl (k := 1) rfl (by rw [hkv]; exact pk_m1 n) (by decide) rfl (fun ls hl => ?_)
                        refine lv_goto (tgt := 262) hx hb dX4_pass_380 (by decide) ?_
                        have eT : (upd (set3 (upd (rep (sell1 nt) j (fo (stand1 (nI q)) nt (fo (turn1 (nI q)) nc f))) 4 (((rep (sell1 nt) j (fo (stand1 (nI q)) nt (fo (turn1 (nI q)) nc f))) 4) - 1)) (19 + 3 * k) (((rep (sell1 nt) j (fo (stand1 (nI q)) nt (fo (turn1 (nI q)) nc f))) (19 + 3 * k)) - 1) ((rep (sell1 nt) j (fo (stand1 (nI q)) nt (fo (turn1 (nI q)) nc f))) (20 + 3 * k)) (((rep (sell1 nt) j (fo (stand1 (nI q)) nt (fo (turn1 (nI q)) nc f))) (21 + 3 * k)) + 1)) 5 (((rep (sell1 nt) j (fo (stand1 (nI q)) nt (fo (turn1 (nI q)) nc f))) 5) + 3)) = sell1 nt (rep (sell1 nt) j (fo (stand1 (nI q)) nt (fo (turn1 (nI q)) nc f))) := (se_2 (by omega) ek (ge1_0 (Int32.not_lt.mpr c_297)) (pay_a c_365))
                        exact ih (j + 1) (by omega) _ rfl (Or.inr ⟨ge10 c_270, le18 c_276⟩) _ _ (P_eq (congrArg (fun F9 => SM cI cL S C T nc nt F9 g) eT) hP) (D_fst sm_fst hD) hS _ (lv_sub hl [0, 2, 3, 4, 5] rfl)
                      ·
                        refine lv_iconst (v := 2) hx hb dX4_pass_368 (by decide) ?_
                        refine lv_goto (tgt := 373) hx hb dX4_pass_369 (by decide) ?_
                        refine lv_iadd hx hb dX4_pass_373 ?_
                        refine w_putJ (C := RX4) (ws' := SM cI cL S C T nc nt (upd (set3 (upd (rep (sell1 nt) j (fo (stand1 (nI q)) nt (fo (turn1 (nI q)) nc f))) 4 (((rep (sell1 nt) j (fo (stand1 (nI q)) nt (fo (turn1 (nI q)) nc f))) 4) - 1)) (19 + 3 * k) (((rep (sell1 nt) j (fo (stand1 (nI q)) nt (fo (turn1 (nI q)) nc f))) (19 + 3 * k)) - 1) ((rep (sell1 nt) j (fo (stand1 (nI q)) nt (fo (turn1 (nI q)) nc f))) (20 + 3 * k)) (((rep (sell1 nt) j (fo (stand1 (nI q)) nt (fo (turn1 (nI q)) nc f))) (21 + 3 * k)) + 1)) 5 (((rep (sell1 nt) j (fo (stand1 (nI q)) nt (fo (turn1 (nI q)) nc f))) 5) + 2)) g) hx hb hts iX4_pass_X4 tyX4_ok nmX4 hown hK hP hD hS (J_coins (((rep (sell1 nt) j (fo (stand1 (nI q)) nt (fo (turn1 (nI q)) nc f))) 5) + 2)) rfl 2 (by decide) fX4_pass_32 rfl rfl rfl rfl (Nat.le_of_ble_eq_true rfl) rfl dX4_pass_374 (fun H locs hP hD hS => ?_)
                        refine lv_iinc (v := nI n) (lv' := [(4, .int (nI n)), (5, .int (nxt (rep (sell1 nt) j (fo (stand1 (nI q)) nt (fo (turn1 (nI q)) nc f))) nt)), (3, .int ((fo (stand1 (nI q)) nt (fo (turn1 (nI q)) nc f)) 0 - (fo (stand1 (nI q)) nt (fo (turn1 (nI q)) nc f)) 0 / 24 * 24)), (2, .int (f 5)), (1, .int (nI q)), (0, .ref (S 0))]) hx hb dX4_pass_377 hl (k := 1) rfl (by rw [hkv]; exact pk_m1 n) (by decide) rfl (fun ls hl => ?_)
                        refine lv_goto (tgt := 262) hx hb dX4_pass_380 (by decide) ?_
                        have eT : (upd (set3 (upd (rep (sell1 nt) j (fo (stand1 (nI q)) nt (fo (turn1 (nI q)) nc f))) 4 (((rep (sell1 nt) j (fo (stand1 (nI q)) nt (fo (turn1 (nI q)) nc f))) 4) - 1)) (19 + 3 * k) (((rep (sell1 nt) j (fo (stand1 (nI q)) nt (fo (turn1 (nI q)) nc f))) (19 + 3 * k)) - 1) ((rep (sell1 nt) j (fo (stand1 (nI q)) nt (fo (turn1 (nI q)) nc f))) (20 + 3 * k)) (((rep (sell1 nt) j (fo (stand1 (nI q)) nt (fo (turn1 (nI q)) nc f))) (21 + 3 * k)) + 1)) 5 (((rep (sell1 nt) j (fo (stand1 (nI q)) nt (fo (turn1 (nI q)) nc f))) 5) + 2)) = sell1 nt (rep (sell1 nt) j (fo (stand1 (nI q)) nt (fo (turn1 (nI q)) nc f))) := (se_2 (by omega) ek (ge1_0 (Int32.not_lt.mpr c_297)) (pay_b c_365))
                        exact ih (j + 1) (by omega) _ rfl (Or.inr ⟨ge10 c_270, le18 c_276⟩) _ _ (P_eq (congrArg (fun F9 => SM cI cL S C T nc nt F9 g) eT) hP) (D_fst sm_fst hD) hS _ (lv_sub hl [0, 2, 3, 4, 5] rfl)
                    ·
                      refine lv_aload_n hx hb dX4_pass_300 rfl (lv_at hl 5 rfl) ?_
                      refine lv_dup hx hb dX4_pass_301 rfl ?_
                      refine w_getM hx hb hts iX4_pass_X4 hown hK hP (sm_b 0 rfl) rfl 3 (by decide) fX4_pass_38 rfl rfl (v := .int ((rep (sell1 nt) j (fo (stand1 (nI q)) nt (fo (turn1 (nI q)) nc f))) 6)) dX4_pass_302 ?_
                      refine lv_iconst (v := 1) hx hb dX4_pass_305 (by decide) ?_
                      refine lv_iadd hx hb dX4_pass_306 ?_
                      refine w_putJ (C := RX4) (ws' := SM cI cL S C T nc nt (upd (rep (sell1 nt) j (fo (stand1 (nI q)) nt (fo (turn1 (nI q)) nc f))) 6 (((rep (sell1 nt) j (fo (stand1 (nI q)) nt (fo (turn1 (nI q)) nc f))) 6) + 1)) g) hx hb hts iX4_pass_X4 tyX4_ok nmX4 hown hK hP hD hS (J_away (((rep (sell1 nt) j (fo (stand1 (nI q)) nt (fo (turn1 (nI q)) nc f))) 6) + 1)) rfl 3 (by decide) fX4_pass_38 rfl rfl rfl rfl (Nat.le_of_ble_eq_true rfl) rfl dX4_pass_307 (fun H locs hP hD hS => ?_)
                      refine lv_goto (tgt := 377) hx hb dX4_pass_310 (by decide) ?_
                      refine lv_iinc (v := nI n) (lv' := [(4, .int (nI n)), (5, .int (nxt (rep (sell1 nt) j (fo (stand1 (nI q)) nt (fo (turn1 (nI q)) nc f))) nt)), (3, .int ((fo (stand1 (nI q)) nt (fo (turn1 (nI q)) nc f)) 0 - (fo (stand1 (nI q)) nt (fo (turn1 (nI q)) nc f)) 0 / 24 * 24)), (2, .int (f 5)), (1, .int (nI q)), (0, .ref (S 0))]) hx hb dX4_pass_377 hl (k := 1) rfl (by rw [hkv]; exact pk_m1 n) (by decide) rfl (fun ls hl => ?_)
                      refine lv_goto (tgt := 262) hx hb dX4_pass_380 (by decide) ?_
                      have eT : (upd (rep (sell1 nt) j (fo (stand1 (nI q)) nt (fo (turn1 (nI q)) nc f))) 6 (((rep (sell1 nt) j (fo (stand1 (nI q)) nt (fo (turn1 (nI q)) nc f))) 6) + 1)) = sell1 nt (rep (sell1 nt) j (fo (stand1 (nI q)) nt (fo (turn1 (nI q)) nc f))) := (se_1 (Or.inr (lt1_0 hIF.1.2.2.2 (Int32.not_le.mp c_297))))
                      exact ih (j + 1) (by omega) _ rfl (Or.inr ⟨ge10 c_270, le18 c_276⟩) _ _ (P_eq (congrArg (fun F9 => SM cI cL S C T nc nt F9 g) eT) hP) (D_fst sm_fst hD) hS _ (lv_sub hl [0, 2, 3, 4, 5] rfl)
          exact lp3 (q / 4) 0 (by omega) _ rfl (Or.inl rfl) _ _ hP hD hS _ (lv_sub hl [0, 1, 3, 4, 5] rfl)
        | succ n ih =>
          intro j hj   H locs hP hD hS ls hl
          have hIF : Inv (fo (stand1 (nI q)) j (fo (turn1 (nI q)) nc f)) := Inv.fo_ (N := 6) (fun f i hi h => h.stand (bd_n (n := 40) hq (by decide)) hi) (Inv.fo_ (N := 4) (fun f i hi h => h.turn (bd_n (n := 40) hq (by decide)) hi) hI nc hnc) j (by omega)
          refine lv_iload hx hb dX4_pass_113 (lv_at hl 0 rfl) ?_
          refine lv_iload hx hb dX4_pass_115 (lv_at hl 1 rfl) ?_
          refine lv_icmp_ge (tgt := 249) hx hb dX4_pass_117 (by decide) (fun c_117 => ?_) (fun c_117 => ?_)
          · exact absurd c_117 (nI_ge (by omega) (by omega))
          refine lv_aload_n hx hb dX4_pass_120 rfl (lv_at hl 2 rfl) ?_
          refine lv_iload hx hb dX4_pass_121 (lv_at hl 0 rfl) ?_
          refine w_qldA hx hb hK hP (sm_b 4 rfl) rfl j rfl (by omega) (by omega) (v := T j) rfl dX4_pass_123 ?_
          refine lv_astore (lv' := [(6, .ref (T j)), (5, .int (nI j)), (4, .int (nI nt)), (3, .ref (S 4)), (2, .int (f 5)), (1, .int (nI q)), (0, .ref (S 0))]) hx hb dX4_pass_124 hl (by decide) rfl (fun ls hl => ?_)
          refine lv_aload hx hb dX4_pass_126 (lv_at hl 0 rfl) ?_
          refine lv_iconst (v := 0) hx hb dX4_pass_128 (by decide) ?_
          refine w_ildM hx hb hK hP (sm_t (by omega)) rfl 0 rfl (by decide) (by decide) (v := (fo (stand1 (nI q)) j (fo (turn1 (nI q)) nc f)) (19 + 3 * j)) rfl dX4_pass_129 ?_
          refine lv_if_ne (tgt := 136) hx hb dX4_pass_130 (by decide) (fun c_130 => ?_) (fun c_130 => ?_)
          ·
            refine lv_iload_n hx hb dX4_pass_136 rfl (lv_at hl 5 rfl) ?_
            refine lv_bipush (v := 20) hx hb dX4_pass_137 (by decide) ?_
            refine lv_icmp_le (tgt := 171) hx hb dX4_pass_139 (by decide) (fun c_139 => ?_) (fun c_139 => ?_)
            ·
              refine lv_aload hx hb dX4_pass_171 (lv_at hl 0 rfl) ?_
              refine lv_iconst (v := 1) hx hb dX4_pass_173 (by decide) ?_
              refine lv_dup2_11 hx hb dX4_pass_174 rfl rfl ?_
              refine w_ildM hx hb hK hP (sm_t (by omega)) rfl 1 rfl (by decide) (by decide) (v := (fo (stand1 (nI q)) j (fo (turn1 (nI q)) nc f)) (20 + 3 * j)) rfl dX4_pass_175 ?_
              refine lv_iconst (v := 1) hx hb dX4_pass_176 (by decide) ?_
              refine lv_isub hx hb dX4_pass_177 ?_
              refine w_istJ (ws' := SM cI cL S C T nc nt (set3 (fo (stand1 (nI q)) j (fo (turn1 (nI q)) nc f)) (19 + 3 * j) ((fo (stand1 (nI q)) j (fo (turn1 (nI q)) nc f)) (19 + 3 * j)) (((fo (stand1 (nI q)) j (fo (turn1 (nI q)) nc f)) (20 + 3 * j)) - 1) ((fo (stand1 (nI q)) j (fo (turn1 (nI q)) nc f)) (21 + 3 * j))) g) hx hb hK hP hD hS 1 (J_tw1 hnc (by omega) (((fo (stand1 (nI q)) j (fo (turn1 (nI q)) nc f)) (20 + 3 * j)) - 1) rfl rfl) rfl rfl (by decide) (by decide) dX4_pass_178 (fun H locs hP hD hS => ?_)
              refine lv_aload hx hb dX4_pass_179 (lv_at hl 0 rfl) ?_
              refine lv_iconst (v := 1) hx hb dX4_pass_181 (by decide) ?_
              refine lv_aload hx hb dX4_pass_182 (lv_at hl 0 rfl) ?_
              refine lv_iconst (v := 1) hx hb dX4_pass_184 (by decide) ?_
              refine w_ildM hx hb hK hP (sm_t (by omega)) rfl 1 rfl (by decide) (by decide) (v := ((fo (stand1 (nI q)) j (fo (turn1 (nI q)) nc f)) (20 + 3 * j)) - 1) (s19_1) dX4_pass_185 ?_
              refine lv_if_ge (tgt := 193) hx hb dX4_pass_186 (by decide) (fun c_186 => ?_) (fun c_186 => ?_)
              ·
                refine lv_aload hx hb dX4_pass_193 (lv_at hl 0 rfl) ?_
                refine lv_iconst (v := 1) hx hb dX4_pass_195 (by decide) ?_
                refine w_ildM hx hb hK hP (sm_t (by omega)) rfl 1 rfl (by decide) (by decide) (v := ((fo (stand1 (nI q)) j (fo (turn1 (nI q)) nc f)) (20 + 3 * j)) - 1) (s19_1) dX4_pass_196 ?_
                refine lv_bipush (v := 100) hx hb dX4_pass_197 (by decide) ?_
                refine lv_icmp_le (tgt := 207) hx hb dX4_pass_199 (by decide) (fun c_199 => ?_) (fun c_199 => ?_)
                rotate_left
                · exact absurd (sf_x2 (hIF.2.2 j (by omega)).2) c_199
                refine lv_aload hx hb dX4_pass_207 (lv_at hl 0 rfl) ?_
                refine lv_iconst (v := 1) hx hb dX4_pass_209 (by decide) ?_
                refine w_ildM hx hb hK hP (sm_t (by omega)) rfl 1 rfl (by decide) (by decide) (v := ((fo (stand1 (nI q)) j (fo (turn1 (nI q)) nc f)) (20 + 3 * j)) - 1) (s19_1) dX4_pass_210 ?_
                refine w_istJ (ws' := SM cI cL S C T nc nt (set3 (fo (stand1 (nI q)) j (fo (turn1 (nI q)) nc f)) (19 + 3 * j) ((fo (stand1 (nI q)) j (fo (turn1 (nI q)) nc f)) (19 + 3 * j)) (((fo (stand1 (nI q)) j (fo (turn1 (nI q)) nc f)) (20 + 3 * j)) - 1) ((fo (stand1 (nI q)) j (fo (turn1 (nI q)) nc f)) (21 + 3 * j))) g) hx hb hK hP hD hS 1 (J_t1 hnc (by omega) (((fo (stand1 (nI q)) j (fo (turn1 (nI q)) nc f)) (20 + 3 * j)) - 1)) rfl rfl (by decide) (by decide) dX4_pass_211 (fun H locs hP hD hS => ?_)
                refine lv_aload hx hb dX4_pass_212 (lv_at hl 0 rfl) ?_
                refine lv_iconst (v := 1) hx hb dX4_pass_214 (by decide) ?_
                refine w_ildM hx hb hK hP (sm_t (by omega)) rfl 1 rfl (by decide) (by decide) (v := ((fo (stand1 (nI q)) j (fo (turn1 (nI q)) nc f)) (20 + 3 * j)) - 1) (s19_1) dX4_pass_215 ?_
                refine lv_bipush (v := 100) hx hb dX4_pass_216 (by decide) ?_
                refine lv_icmp_ne (tgt := 243) hx hb dX4_pass_218 (by decide) (fun c_218 => ?_) (fun c_218 => ?_)
                ·
                  refine lv_iinc (v := nI (j + 1)) (lv' := [(5, .int (nI (j + 1))), (6, .ref (T j)), (4, .int (nI nt)), (3, .ref (S 4)), (2, .int (f 5)), (1, .int (nI q)), (0, .ref (S 0))]) hx hb dX4_pass_243 hl (k := 1) rfl (nI_succ _).symm (by decide) rfl (fun ls hl => ?_)
                  refine lv_goto (tgt := 113) hx hb dX4_pass_246 (by decide) ?_
                  have eT : (set3 (fo (stand1 (nI q)) j (fo (turn1 (nI q)) nc f)) (19 + 3 * j) ((fo (stand1 (nI q)) j (fo (turn1 (nI q)) nc f)) (19 + 3 * j)) (((fo (stand1 (nI q)) j (fo (turn1 (nI q)) nc f)) (20 + 3 * j)) - 1) ((fo (stand1 (nI q)) j (fo (turn1 (nI q)) nc f)) (21 + 3 * j))) = stand1 (nI q) j (fo (stand1 (nI q)) j (fo (turn1 (nI q)) nc f)) := st_eq (sa_1 c_130 (sf_4 (Or.inl c_139) (Int32.not_lt.mpr c_186)) c_218)
                  exact ih (j + 1) (by omega) _ _ (P_eq (congrArg (fun F9 => SM cI cL S C T nc nt F9 g) eT) hP) (D_fst sm_fst hD) hS _ (lv_sub hl [0, 2, 3, 4, 5, 6] rfl)
                ·
                  refine lv_aload hx hb dX4_pass_221 (lv_at hl 0 rfl) ?_
                  refine lv_iconst (v := 0) hx hb dX4_pass_223 (by decide) ?_
                  refine lv_aload hx hb dX4_pass_224 (lv_at hl 0 rfl) ?_
                  refine lv_iconst (v := 0) hx hb dX4_pass_226 (by decide) ?_
                  refine w_ildM hx hb hK hP (sm_t (by omega)) rfl 0 rfl (by decide) (by decide) (v := (fo (stand1 (nI q)) j (fo (turn1 (nI q)) nc f)) (19 + 3 * j)) (s19_0) dX4_pass_227 ?_
                  refine lv_iconst (v := 2) hx hb dX4_pass_228 (by decide) ?_
                  refine lv_icmp_le (tgt := 241) hx hb dX4_pass_229 (by decide) (fun c_229 => ?_) (fun c_229 => ?_)
                  ·
                    refine lv_iconst (v := 0) hx hb dX4_pass_241 (by decide) ?_
                    refine w_istJ (ws' := SM cI cL S C T nc nt (set3 (fo (stand1 (nI q)) j (fo (turn1 (nI q)) nc f)) (19 + 3 * j) 0 (((fo (stand1 (nI q)) j (fo (turn1 (nI q)) nc f)) (20 + 3 * j)) - 1) ((fo (stand1 (nI q)) j (fo (turn1 (nI q)) nc f)) (21 + 3 * j))) g) hx hb hK hP hD hS 0 (J_t0 hnc (by omega) 0) rfl rfl (by decide) (by decide) dX4_pass_242 (fun H locs hP hD hS => ?_)
                    refine lv_iinc (v := nI (j + 1)) (lv' := [(5, .int (nI (j + 1))), (6, .ref (T j)), (4, .int (nI nt)), (3, .ref (S 4)), (2, .int (f 5)), (1, .int (nI q)), (0, .ref (S 0))]) hx hb dX4_pass_243 hl (k := 1) rfl (nI_succ _).symm (by decide) rfl (fun ls hl => ?_)
                    refine lv_goto (tgt := 113) hx hb dX4_pass_246 (by decide) ?_
                    have eT : (set3 (fo (stand1 (nI q)) j (fo (turn1 (nI q)) nc f)) (19 + 3 * j) 0 (((fo (stand1 (nI q)) j (fo (turn1 (nI q)) nc f)) (20 + 3 * j)) - 1) ((fo (stand1 (nI q)) j (fo (turn1 (nI q)) nc f)) (21 + 3 * j))) = stand1 (nI q) j (fo (stand1 (nI q)) j (fo (turn1 (nI q)) nc f)) := st_eq (sa_2 c_130 (sf_4 (Or.inl c_139) (Int32.not_lt.mpr c_186)) c_218 c_229 (hIF.2.2 j (by omega)).1)
                    exact ih (j + 1) (by omega) _ _ (P_eq (congrArg (fun F9 => SM cI cL S C T nc nt F9 g) eT) hP) (D_fst sm_fst hD) hS _ (lv_sub hl [0, 2, 3, 4, 5, 6] rfl)
                  ·
                    refine lv_aload hx hb dX4_pass_232 (lv_at hl 0 rfl) ?_
                    refine lv_iconst (v := 0) hx hb dX4_pass_234 (by decide) ?_
                    refine w_ildM hx hb hK hP (sm_t (by omega)) rfl 0 rfl (by decide) (by decide) (v := (fo (stand1 (nI q)) j (fo (turn1 (nI q)) nc f)) (19 + 3 * j)) (s19_0) dX4_pass_235 ?_
                    refine lv_iconst (v := 2) hx hb dX4_pass_236 (by decide) ?_
                    refine lv_isub hx hb dX4_pass_237 ?_
                    refine lv_goto (tgt := 242) hx hb dX4_pass_238 (by decide) ?_
                    refine w_istJ (ws' := SM cI cL S C T nc nt (set3 (fo (stand1 (nI q)) j (fo (turn1 (nI q)) nc f)) (19 + 3 * j) (((fo (stand1 (nI q)) j (fo (turn1 (nI q)) nc f)) (19 + 3 * j)) - 2) (((fo (stand1 (nI q)) j (fo (turn1 (nI q)) nc f)) (20 + 3 * j)) - 1) ((fo (stand1 (nI q)) j (fo (turn1 (nI q)) nc f)) (21 + 3 * j))) g) hx hb hK hP hD hS 0 (J_t0 hnc (by omega) (((fo (stand1 (nI q)) j (fo (turn1 (nI q)) nc f)) (19 + 3 * j)) - 2)) rfl rfl (by decide) (by decide) dX4_pass_242 (fun H locs hP hD hS => ?_)
                    refine lv_iinc (v := nI (j + 1)) (lv' := [(5, .int (nI (j + 1))), (6, .ref (T j)), (4, .int (nI nt)), (3, .ref (S 4)), (2, .int (f 5)), (1, .int (nI q)), (0, .ref (S 0))]) hx hb dX4_pass_243 hl (k := 1) rfl (nI_succ _).symm (by decide) rfl (fun ls hl => ?_)
                    refine lv_goto (tgt := 113) hx hb dX4_pass_246 (by decide) ?_
                    have eT : (set3 (fo (stand1 (nI q)) j (fo (turn1 (nI q)) nc f)) (19 + 3 * j) (((fo (stand1 (nI q)) j (fo (turn1 (nI q)) nc f)) (19 + 3 * j)) - 2) (((fo (stand1 (nI q)) j (fo (turn1 (nI q)) nc f)) (20 + 3 * j)) - 1) ((fo (stand1 (nI q)) j (fo (turn1 (nI q)) nc f)) (21 + 3 * j))) = stand1 (nI q) j (fo (stand1 (nI q)) j (fo (turn1 (nI q)) nc f)) := st_eq (sa_3 c_130 (sf_4 (Or.inl c_139) (Int32.not_lt.mpr c_186)) c_218 c_229 (hIF.2.2 j (by omega)).1)
                    exact ih (j + 1) (by omega) _ _ (P_eq (congrArg (fun F9 => SM cI cL S C T nc nt F9 g) eT) hP) (D_fst sm_fst hD) hS _ (lv_sub hl [0, 2, 3, 4, 5, 6] rfl)
              ·
                refine lv_iconst (v := 0) hx hb dX4_pass_189 (by decide) ?_
                refine lv_goto (tgt := 211) hx hb dX4_pass_190 (by decide) ?_
                refine w_istJ (ws' := SM cI cL S C T nc nt (set3 (fo (stand1 (nI q)) j (fo (turn1 (nI q)) nc f)) (19 + 3 * j) ((fo (stand1 (nI q)) j (fo (turn1 (nI q)) nc f)) (19 + 3 * j)) 0 ((fo (stand1 (nI q)) j (fo (turn1 (nI q)) nc f)) (21 + 3 * j))) g) hx hb hK hP hD hS 1 (J_t1 hnc (by omega) 0) rfl rfl (by decide) (by decide) dX4_pass_211 (fun H locs hP hD hS => ?_)
                refine lv_aload hx hb dX4_pass_212 (lv_at hl 0 rfl) ?_
                refine lv_iconst (v := 1) hx hb dX4_pass_214 (by decide) ?_
                refine w_ildM hx hb hK hP (sm_t (by omega)) rfl 1 rfl (by decide) (by decide) (v := 0) (s19_1) dX4_pass_215 ?_
                refine lv_bipush (v := 100) hx hb dX4_pass_216 (by decide) ?_
                refine lv_icmp_ne (tgt := 243) hx hb dX4_pass_218 (by decide) (fun c_218 => ?_) (fun c_218 => ?_)
                rotate_left
                · exact absurd c_218 (by decide)
                refine lv_iinc (v := nI (j + 1)) (lv' := [(5, .int (nI (j + 1))), (6, .ref (T j)), (4, .int (nI nt)), (3, .ref (S 4)), (2, .int (f 5)), (1, .int (nI q)), (0, .ref (S 0))]) hx hb dX4_pass_243 hl (k := 1) rfl (nI_succ _).symm (by decide) rfl (fun ls hl => ?_)
                refine lv_goto (tgt := 113) hx hb dX4_pass_246 (by decide) ?_
                have eT : (set3 (fo (stand1 (nI q)) j (fo (turn1 (nI q)) nc f)) (19 + 3 * j) ((fo (stand1 (nI q)) j (fo (turn1 (nI q)) nc f)) (19 + 3 * j)) 0 ((fo (stand1 (nI q)) j (fo (turn1 (nI q)) nc f)) (21 + 3 * j))) = stand1 (nI q) j (fo (stand1 (nI q)) j (fo (turn1 (nI q)) nc f)) := st_eq (sa_1 c_130 (sf_3 (Or.inl c_139) (Int32.not_le.mp c_186)) (by decide))
                exact ih (j + 1) (by omega) _ _ (P_eq (congrArg (fun F9 => SM cI cL S C T nc nt F9 g) eT) hP) (D_fst sm_fst hD) hS _ (lv_sub hl [0, 2, 3, 4, 5, 6] rfl)
            ·
              refine lv_aload_n hx hb dX4_pass_142 rfl (lv_at hl 6 rfl) ?_
              refine w_getM hx hb hts iX4_pass_X4 hown hK hP (sm_b 0 rfl) rfl 1 (by decide) fX4_pass_7 rfl rfl (v := .ref (S 1)) dX4_pass_143 ?_
              refine lv_iconst (v := 0) hx hb dX4_pass_146 (by decide) ?_
              refine w_ildM hx hb hK hP (sm_b 1 rfl) rfl 0 rfl (by decide) (by decide) (v := (fo (stand1 (nI q)) j (fo (turn1 (nI q)) nc f)) 1) rfl dX4_pass_147 ?_
              refine lv_bipush (v := 100) hx hb dX4_pass_148 (by decide) ?_
              refine lv_icmp_ge (tgt := 171) hx hb dX4_pass_150 (by decide) (fun c_150 => ?_) (fun c_150 => ?_)
              ·
                refine lv_aload hx hb dX4_pass_171 (lv_at hl 0 rfl) ?_
                refine lv_iconst (v := 1) hx hb dX4_pass_173 (by decide) ?_
                refine lv_dup2_11 hx hb dX4_pass_174 rfl rfl ?_
                refine w_ildM hx hb hK hP (sm_t (by omega)) rfl 1 rfl (by decide) (by decide) (v := (fo (stand1 (nI q)) j (fo (turn1 (nI q)) nc f)) (20 + 3 * j)) rfl dX4_pass_175 ?_
                refine lv_iconst (v := 1) hx hb dX4_pass_176 (by decide) ?_
                refine lv_isub hx hb dX4_pass_177 ?_
                refine w_istJ (ws' := SM cI cL S C T nc nt (set3 (fo (stand1 (nI q)) j (fo (turn1 (nI q)) nc f)) (19 + 3 * j) ((fo (stand1 (nI q)) j (fo (turn1 (nI q)) nc f)) (19 + 3 * j)) (((fo (stand1 (nI q)) j (fo (turn1 (nI q)) nc f)) (20 + 3 * j)) - 1) ((fo (stand1 (nI q)) j (fo (turn1 (nI q)) nc f)) (21 + 3 * j))) g) hx hb hK hP hD hS 1 (J_tw1 hnc (by omega) (((fo (stand1 (nI q)) j (fo (turn1 (nI q)) nc f)) (20 + 3 * j)) - 1) rfl rfl) rfl rfl (by decide) (by decide) dX4_pass_178 (fun H locs hP hD hS => ?_)
                refine lv_aload hx hb dX4_pass_179 (lv_at hl 0 rfl) ?_
                refine lv_iconst (v := 1) hx hb dX4_pass_181 (by decide) ?_
                refine lv_aload hx hb dX4_pass_182 (lv_at hl 0 rfl) ?_
                refine lv_iconst (v := 1) hx hb dX4_pass_184 (by decide) ?_
                refine w_ildM hx hb hK hP (sm_t (by omega)) rfl 1 rfl (by decide) (by decide) (v := ((fo (stand1 (nI q)) j (fo (turn1 (nI q)) nc f)) (20 + 3 * j)) - 1) (s19_1) dX4_pass_185 ?_
                refine lv_if_ge (tgt := 193) hx hb dX4_pass_186 (by decide) (fun c_186 => ?_) (fun c_186 => ?_)
                ·
                  refine lv_aload hx hb dX4_pass_193 (lv_at hl 0 rfl) ?_
                  refine lv_iconst (v := 1) hx hb dX4_pass_195 (by decide) ?_
                  refine w_ildM hx hb hK hP (sm_t (by omega)) rfl 1 rfl (by decide) (by decide) (v := ((fo (stand1 (nI q)) j (fo (turn1 (nI q)) nc f)) (20 + 3 * j)) - 1) (s19_1) dX4_pass_196 ?_
                  refine lv_bipush (v := 100) hx hb dX4_pass_197 (by decide) ?_
                  refine lv_icmp_le (tgt := 207) hx hb dX4_pass_199 (by decide) (fun c_199 => ?_) (fun c_199 => ?_)
                  rotate_left
                  · exact absurd (sf_x2 (hIF.2.2 j (by omega)).2) c_199
                  refine lv_aload hx hb dX4_pass_207 (lv_at hl 0 rfl) ?_
                  refine lv_iconst (v := 1) hx hb dX4_pass_209 (by decide) ?_
                  refine w_ildM hx hb hK hP (sm_t (by omega)) rfl 1 rfl (by decide) (by decide) (v := ((fo (stand1 (nI q)) j (fo (turn1 (nI q)) nc f)) (20 + 3 * j)) - 1) (s19_1) dX4_pass_210 ?_
                  refine w_istJ (ws' := SM cI cL S C T nc nt (set3 (fo (stand1 (nI q)) j (fo (turn1 (nI q)) nc f)) (19 + 3 * j) ((fo (stand1 (nI q)) j (fo (turn1 (nI q)) nc f)) (19 + 3 * j)) (((fo (stand1 (nI q)) j (fo (turn1 (nI q)) nc f)) (20 + 3 * j)) - 1) ((fo (stand1 (nI q)) j (fo (turn1 (nI q)) nc f)) (21 + 3 * j))) g) hx hb hK hP hD hS 1 (J_t1 hnc (by omega) (((fo (stand1 (nI q)) j (fo (turn1 (nI q)) nc f)) (20 + 3 * j)) - 1)) rfl rfl (by decide) (by decide) dX4_pass_211 (fun H locs hP hD hS => ?_)
                  refine lv_aload hx hb dX4_pass_212 (lv_at hl 0 rfl) ?_
                  refine lv_iconst (v := 1) hx hb dX4_pass_214 (by decide) ?_
                  refine w_ildM hx hb hK hP (sm_t (by omega)) rfl 1 rfl (by decide) (by decide) (v := ((fo (stand1 (nI q)) j (fo (turn1 (nI q)) nc f)) (20 + 3 * j)) - 1) (s19_1) dX4_pass_215 ?_
                  refine lv_bipush (v := 100) hx hb dX4_pass_216 (by decide) ?_
                  refine lv_icmp_ne (tgt := 243) hx hb dX4_pass_218 (by decide) (fun c_218 => ?_) (fun c_218 => ?_)
                  ·
                    refine lv_iinc (v := nI (j + 1)) (lv' := [(5, .int (nI (j + 1))), (6, .ref (T j)), (4, .int (nI nt)), (3, .ref (S 4)), (2, .int (f 5)), (1, .int (nI q)), (0, .ref (S 0))]) hx hb dX4_pass_243 hl (k := 1) rfl (nI_succ _).symm (by decide) rfl (fun ls hl => ?_)
                    refine lv_goto (tgt := 113) hx hb dX4_pass_246 (by decide) ?_
                    have eT : (set3 (fo (stand1 (nI q)) j (fo (turn1 (nI q)) nc f)) (19 + 3 * j) ((fo (stand1 (nI q)) j (fo (turn1 (nI q)) nc f)) (19 + 3 * j)) (((fo (stand1 (nI q)) j (fo (turn1 (nI q)) nc f)) (20 + 3 * j)) - 1) ((fo (stand1 (nI q)) j (fo (turn1 (nI q)) nc f)) (21 + 3 * j))) = stand1 (nI q) j (fo (stand1 (nI q)) j (fo (turn1 (nI q)) nc f)) := st_eq (sa_1 c_130 (sf_4 (Or.inr c_150) (Int32.not_lt.mpr c_186)) c_218)
                    exact ih (j + 1) (by omega) _ _ (P_eq (congrArg (fun F9 => SM cI cL S C T nc nt F9 g) eT) hP) (D_fst sm_fst hD) hS _ (lv_sub hl [0, 2, 3, 4, 5, 6] rfl)
                  ·
                    refine lv_aload hx hb dX4_pass_221 (lv_at hl 0 rfl) ?_
                    refine lv_iconst (v := 0) hx hb dX4_pass_223 (by decide) ?_
                    refine lv_aload hx hb dX4_pass_224 (lv_at hl 0 rfl) ?_
                    refine lv_iconst (v := 0) hx hb dX4_pass_226 (by decide) ?_
                    refine w_ildM hx hb hK hP (sm_t (by omega)) rfl 0 rfl (by decide) (by decide) (v := (fo (stand1 (nI q)) j (fo (turn1 (nI q)) nc f)) (19 + 3 * j)) (s19_0) dX4_pass_227 ?_
                    refine lv_iconst (v := 2) hx hb dX4_pass_228 (by decide) ?_
                    refine lv_icmp_le (tgt := 241) hx hb dX4_pass_229 (by decide) (fun c_229 => ?_) (fun c_229 => ?_)
                    ·
                      refine lv_iconst (v := 0) hx hb dX4_pass_241 (by decide) ?_
                      refine w_istJ (ws' := SM cI cL S C T nc nt (set3 (fo (stand1 (nI q)) j (fo (turn1 (nI q)) nc f)) (19 + 3 * j) 0 (((fo (stand1 (nI q)) j (fo (turn1 (nI q)) nc f)) (20 + 3 * j)) - 1) ((fo (stand1 (nI q)) j (fo (turn1 (nI q)) nc f)) (21 + 3 * j))) g) hx hb hK hP hD hS 0 (J_t0 hnc (by omega) 0) rfl rfl (by decide) (by decide) dX4_pass_242 (fun H locs hP hD hS => ?_)
                      refine lv_iinc (v := nI (j + 1)) (lv' := [(5, .int (nI (j + 1))), (6, .ref (T j)), (4, .int (nI nt)), (3, .ref (S 4)), (2, .int (f 5)), (1, .int (nI q)), (0, .ref (S 0))]) hx hb dX4_pass_243 hl (k := 1) rfl (nI_succ _).symm (by decide) rfl (fun ls hl => ?_)
                      refine lv_goto (tgt := 113) hx hb dX4_pass_246 (by decide) ?_
                      have eT : (set3 (fo (stand1 (nI q)) j (fo (turn1 (nI q)) nc f)) (19 + 3 * j) 0 (((fo (stand1 (nI q)) j (fo (turn1 (nI q)) nc f)) (20 + 3 * j)) - 1) ((fo (stand1 (nI q)) j (fo (turn1 (nI q)) nc f)) (21 + 3 * j))) = stand1 (nI q) j (fo (stand1 (nI q)) j (fo (turn1 (nI q)) nc f)) := st_eq (sa_2 c_130 (sf_4 (Or.inr c_150) (Int32.not_lt.mpr c_186)) c_218 c_229 (hIF.2.2 j (by omega)).1)
                      exact ih (j + 1) (by omega) _ _ (P_eq (congrArg (fun F9 => SM cI cL S C T nc nt F9 g) eT) hP) (D_fst sm_fst hD) hS _ (lv_sub hl [0, 2, 3, 4, 5, 6] rfl)
                    ·
                      refine lv_aload hx hb dX4_pass_232 (lv_at hl 0 rfl) ?_
                      refine lv_iconst (v := 0) hx hb dX4_pass_234 (by decide) ?_
                      refine w_ildM hx hb hK hP (sm_t (by omega)) rfl 0 rfl (by decide) (by decide) (v := (fo (stand1 (nI q)) j (fo (turn1 (nI q)) nc f)) (19 + 3 * j)) (s19_0) dX4_pass_235 ?_
                      refine lv_iconst (v := 2) hx hb dX4_pass_236 (by decide) ?_
                      refine lv_isub hx hb dX4_pass_237 ?_
                      refine lv_goto (tgt := 242) hx hb dX4_pass_238 (by decide) ?_
                      refine w_istJ (ws' := SM cI cL S C T nc nt (set3 (fo (stand1 (nI q)) j (fo (turn1 (nI q)) nc f)) (19 + 3 * j) (((fo (stand1 (nI q)) j (fo (turn1 (nI q)) nc f)) (19 + 3 * j)) - 2) (((fo (stand1 (nI q)) j (fo (turn1 (nI q)) nc f)) (20 + 3 * j)) - 1) ((fo (stand1 (nI q)) j (fo (turn1 (nI q)) nc f)) (21 + 3 * j))) g) hx hb hK hP hD hS 0 (J_t0 hnc (by omega) (((fo (stand1 (nI q)) j (fo (turn1 (nI q)) nc f)) (19 + 3 * j)) - 2)) rfl rfl (by decide) (by decide) dX4_pass_242 (fun H locs hP hD hS => ?_)
                      refine lv_iinc (v := nI (j + 1)) (lv' := [(5, .int (nI (j + 1))), (6, .ref (T j)), (4, .int (nI nt)), (3, .ref (S 4)), (2, .int (f 5)), (1, .int (nI q)), (0, .ref (S 0))]) hx hb dX4_pass_243 hl (k := 1) rfl (nI_succ _).symm (by decide) rfl (fun ls hl => ?_)
                      refine lv_goto (tgt := 113) hx hb dX4_pass_246 (by decide) ?_
                      have eT : (set3 (fo (stand1 (nI q)) j (fo (turn1 (nI q)) nc f)) (19 + 3 * j) (((fo (stand1 (nI q)) j (fo (turn1 (nI q)) nc f)) (19 + 3 * j)) - 2) (((fo (stand1 (nI q)) j (fo (turn1 (nI q)) nc f)) (20 + 3 * j)) - 1) ((fo (stand1 (nI q)) j (fo (turn1 (nI q)) nc f)) (21 + 3 * j))) = stand1 (nI q) j (fo (stand1 (nI q)) j (fo (turn1 (nI q)) nc f)) := st_eq (sa_3 c_130 (sf_4 (Or.inr c_150) (Int32.not_lt.mpr c_186)) c_218 c_229 (hIF.2.2 j (by omega)).1)
                      exact ih (j + 1) (by omega) _ _ (P_eq (congrArg (fun F9 => SM cI cL S C T nc nt F9 g) eT) hP) (D_fst sm_fst hD) hS _ (lv_sub hl [0, 2, 3, 4, 5, 6] rfl)
                ·
                  refine lv_iconst (v := 0) hx hb dX4_pass_189 (by decide) ?_
                  refine lv_goto (tgt := 211) hx hb dX4_pass_190 (by decide) ?_
                  refine w_istJ (ws' := SM cI cL S C T nc nt (set3 (fo (stand1 (nI q)) j (fo (turn1 (nI q)) nc f)) (19 + 3 * j) ((fo (stand1 (nI q)) j (fo (turn1 (nI q)) nc f)) (19 + 3 * j)) 0 ((fo (stand1 (nI q)) j (fo (turn1 (nI q)) nc f)) (21 + 3 * j))) g) hx hb hK hP hD hS 1 (J_t1 hnc (by omega) 0) rfl rfl (by decide) (by decide) dX4_pass_211 (fun H locs hP hD hS => ?_)
                  refine lv_aload hx hb dX4_pass_212 (lv_at hl 0 rfl) ?_
                  refine lv_iconst (v := 1) hx hb dX4_pass_214 (by decide) ?_
                  refine w_ildM hx hb hK hP (sm_t (by omega)) rfl 1 rfl (by decide) (by decide) (v := 0) (s19_1) dX4_pass_215 ?_
                  refine lv_bipush (v := 100) hx hb dX4_pass_216 (by decide) ?_
                  refine lv_icmp_ne (tgt := 243) hx hb dX4_pass_218 (by decide) (fun c_218 => ?_) (fun c_218 => ?_)
                  rotate_left
                  · exact absurd c_218 (by decide)
                  refine lv_iinc (v := nI (j + 1)) (lv' := [(5, .int (nI (j + 1))), (6, .ref (T j)), (4, .int (nI nt)), (3, .ref (S 4)), (2, .int (f 5)), (1, .int (nI q)), (0, .ref (S 0))]) hx hb dX4_pass_243 hl (k := 1) rfl (nI_succ _).symm (by decide) rfl (fun ls hl => ?_)
                  refine lv_goto (tgt := 113) hx hb dX4_pass_246 (by decide) ?_
                  have eT : (set3 (fo (stand1 (nI q)) j (fo (turn1 (nI q)) nc f)) (19 + 3 * j) ((fo (stand1 (nI q)) j (fo (turn1 (nI q)) nc f)) (19 + 3 * j)) 0 ((fo (stand1 (nI q)) j (fo (turn1 (nI q)) nc f)) (21 + 3 * j))) = stand1 (nI q) j (fo (stand1 (nI q)) j (fo (turn1 (nI q)) nc f)) := st_eq (sa_1 c_130 (sf_3 (Or.inr c_150) (Int32.not_le.mp c_186)) (by decide))
                  exact ih (j + 1) (by omega) _ _ (P_eq (congrArg (fun F9 => SM cI cL S C T nc nt F9 g) eT) hP) (D_fst sm_fst hD) hS _ (lv_sub hl [0, 2, 3, 4, 5, 6] rfl)
              ·
                refine lv_aload hx hb dX4_pass_153 (lv_at hl 0 rfl) ?_
                refine lv_iconst (v := 1) hx hb dX4_pass_155 (by decide) ?_
                refine lv_dup2_11 hx hb dX4_pass_156 rfl rfl ?_
                refine w_ildM hx hb hK hP (sm_t (by omega)) rfl 1 rfl (by decide) (by decide) (v := (fo (stand1 (nI q)) j (fo (turn1 (nI q)) nc f)) (20 + 3 * j)) rfl dX4_pass_157 ?_
                refine lv_iconst (v := 1) hx hb dX4_pass_158 (by decide) ?_
                refine lv_iload_n hx hb dX4_pass_159 rfl (lv_at hl 5 rfl) ?_
                refine lv_bipush (v := 20) hx hb dX4_pass_160 (by decide) ?_
                refine lv_isub hx hb dX4_pass_162 ?_
                refine lv_iconst (v := 4) hx hb dX4_pass_163 (by decide) ?_
                refine lv_idiv hx hb dX4_pass_164 (by decide) ?_
                refine lv_iadd hx hb dX4_pass_165 ?_
                refine lv_iadd hx hb dX4_pass_166 ?_
                refine w_istJ (ws' := SM cI cL S C T nc nt (set3 (fo (stand1 (nI q)) j (fo (turn1 (nI q)) nc f)) (19 + 3 * j) ((fo (stand1 (nI q)) j (fo (turn1 (nI q)) nc f)) (19 + 3 * j)) (((fo (stand1 (nI q)) j (fo (turn1 (nI q)) nc f)) (20 + 3 * j)) + (1 + (((nI q) - 20) / 4))) ((fo (stand1 (nI q)) j (fo (turn1 (nI q)) nc f)) (21 + 3 * j))) g) hx hb hK hP hD hS 1 (J_tw1 hnc (by omega) (((fo (stand1 (nI q)) j (fo (turn1 (nI q)) nc f)) (20 + 3 * j)) + (1 + (((nI q) - 20) / 4))) rfl rfl) rfl rfl (by decide) (by decide) dX4_pass_167 (fun H locs hP hD hS => ?_)
                refine lv_goto (tgt := 179) hx hb dX4_pass_168 (by decide) ?_
                refine lv_aload hx hb dX4_pass_179 (lv_at hl 0 rfl) ?_
                refine lv_iconst (v := 1) hx hb dX4_pass_181 (by decide) ?_
                refine lv_aload hx hb dX4_pass_182 (lv_at hl 0 rfl) ?_
                refine lv_iconst (v := 1) hx hb dX4_pass_184 (by decide) ?_
                refine w_ildM hx hb hK hP (sm_t (by omega)) rfl 1 rfl (by decide) (by decide) (v := ((fo (stand1 (nI q)) j (fo (turn1 (nI q)) nc f)) (20 + 3 * j)) + (1 + (((nI q) - 20) / 4))) (s19_1) dX4_pass_185 ?_
                refine lv_if_ge (tgt := 193) hx hb dX4_pass_186 (by decide) (fun c_186 => ?_) (fun c_186 => ?_)
                rotate_left
                · exact absurd (sf_x1 (hIF.2.2 j (by omega)).2 hq c_139) c_186
                refine lv_aload hx hb dX4_pass_193 (lv_at hl 0 rfl) ?_
                refine lv_iconst (v := 1) hx hb dX4_pass_195 (by decide) ?_
                refine w_ildM hx hb hK hP (sm_t (by omega)) rfl 1 rfl (by decide) (by decide) (v := ((fo (stand1 (nI q)) j (fo (turn1 (nI q)) nc f)) (20 + 3 * j)) + (1 + (((nI q) - 20) / 4))) (s19_1) dX4_pass_196 ?_
                refine lv_bipush (v := 100) hx hb dX4_pass_197 (by decide) ?_
                refine lv_icmp_le (tgt := 207) hx hb dX4_pass_199 (by decide) (fun c_199 => ?_) (fun c_199 => ?_)
                ·
                  refine lv_aload hx hb dX4_pass_207 (lv_at hl 0 rfl) ?_
                  refine lv_iconst (v := 1) hx hb dX4_pass_209 (by decide) ?_
                  refine w_ildM hx hb hK hP (sm_t (by omega)) rfl 1 rfl (by decide) (by decide) (v := ((fo (stand1 (nI q)) j (fo (turn1 (nI q)) nc f)) (20 + 3 * j)) + (1 + (((nI q) - 20) / 4))) (s19_1) dX4_pass_210 ?_
                  refine w_istJ (ws' := SM cI cL S C T nc nt (set3 (fo (stand1 (nI q)) j (fo (turn1 (nI q)) nc f)) (19 + 3 * j) ((fo (stand1 (nI q)) j (fo (turn1 (nI q)) nc f)) (19 + 3 * j)) (((fo (stand1 (nI q)) j (fo (turn1 (nI q)) nc f)) (20 + 3 * j)) + (1 + (((nI q) - 20) / 4))) ((fo (stand1 (nI q)) j (fo (turn1 (nI q)) nc f)) (21 + 3 * j))) g) hx hb hK hP hD hS 1 (J_t1 hnc (by omega) (((fo (stand1 (nI q)) j (fo (turn1 (nI q)) nc f)) (20 + 3 * j)) + (1 + (((nI q) - 20) / 4)))) rfl rfl (by decide) (by decide) dX4_pass_211 (fun H locs hP hD hS => ?_)
                  refine lv_aload hx hb dX4_pass_212 (lv_at hl 0 rfl) ?_
                  refine lv_iconst (v := 1) hx hb dX4_pass_214 (by decide) ?_
                  refine w_ildM hx hb hK hP (sm_t (by omega)) rfl 1 rfl (by decide) (by decide) (v := ((fo (stand1 (nI q)) j (fo (turn1 (nI q)) nc f)) (20 + 3 * j)) + (1 + (((nI q) - 20) / 4))) (s19_1) dX4_pass_215 ?_
                  refine lv_bipush (v := 100) hx hb dX4_pass_216 (by decide) ?_
                  refine lv_icmp_ne (tgt := 243) hx hb dX4_pass_218 (by decide) (fun c_218 => ?_) (fun c_218 => ?_)
                  ·
                    refine lv_iinc (v := nI (j + 1)) (lv' := [(5, .int (nI (j + 1))), (6, .ref (T j)), (4, .int (nI nt)), (3, .ref (S 4)), (2, .int (f 5)), (1, .int (nI q)), (0, .ref (S 0))]) hx hb dX4_pass_243 hl (k := 1) rfl (nI_succ _).symm (by decide) rfl (fun ls hl => ?_)
                    refine lv_goto (tgt := 113) hx hb dX4_pass_246 (by decide) ?_
                    have eT : (set3 (fo (stand1 (nI q)) j (fo (turn1 (nI q)) nc f)) (19 + 3 * j) ((fo (stand1 (nI q)) j (fo (turn1 (nI q)) nc f)) (19 + 3 * j)) (((fo (stand1 (nI q)) j (fo (turn1 (nI q)) nc f)) (20 + 3 * j)) + (1 + (((nI q) - 20) / 4))) ((fo (stand1 (nI q)) j (fo (turn1 (nI q)) nc f)) (21 + 3 * j))) = stand1 (nI q) j (fo (stand1 (nI q)) j (fo (turn1 (nI q)) nc f)) := st_eq (sa_1 c_130 (sf_1 c_139 c_150 c_199) c_218)
                    exact ih (j + 1) (by omega) _ _ (P_eq (congrArg (fun F9 => SM cI cL S C T nc nt F9 g) eT) hP) (D_fst sm_fst hD) hS _ (lv_sub hl [0, 2, 3, 4, 5, 6] rfl)
                  ·
                    refine lv_aload hx hb dX4_pass_221 (lv_at hl 0 rfl) ?_
                    refine lv_iconst (v := 0) hx hb dX4_pass_223 (by decide) ?_
                    refine lv_aload hx hb dX4_pass_224 (lv_at hl 0 rfl) ?_
                    refine lv_iconst (v := 0) hx hb dX4_pass_226 (by decide) ?_
                    refine w_ildM hx hb hK hP (sm_t (by omega)) rfl 0 rfl (by decide) (by decide) (v := (fo (stand1 (nI q)) j (fo (turn1 (nI q)) nc f)) (19 + 3 * j)) (s19_0) dX4_pass_227 ?_
                    refine lv_iconst (v := 2) hx hb dX4_pass_228 (by decide) ?_
                    refine lv_icmp_le (tgt := 241) hx hb dX4_pass_229 (by decide) (fun c_229 => ?_) (fun c_229 => ?_)
                    ·
                      refine lv_iconst (v := 0) hx hb dX4_pass_241 (by decide) ?_
                      refine w_istJ (ws' := SM cI cL S C T nc nt (set3 (fo (stand1 (nI q)) j (fo (turn1 (nI q)) nc f)) (19 + 3 * j) 0 (((fo (stand1 (nI q)) j (fo (turn1 (nI q)) nc f)) (20 + 3 * j)) + (1 + (((nI q) - 20) / 4))) ((fo (stand1 (nI q)) j (fo (turn1 (nI q)) nc f)) (21 + 3 * j))) g) hx hb hK hP hD hS 0 (J_t0 hnc (by omega) 0) rfl rfl (by decide) (by decide) dX4_pass_242 (fun H locs hP hD hS => ?_)
                      refine lv_iinc (v := nI (j + 1)) (lv' := [(5, .int (nI (j + 1))), (6, .ref (T j)), (4, .int (nI nt)), (3, .ref (S 4)), (2, .int (f 5)), (1, .int (nI q)), (0, .ref (S 0))]) hx hb dX4_pass_243 hl (k := 1) rfl (nI_succ _).symm (by decide) rfl (fun ls hl => ?_)
                      refine lv_goto (tgt := 113) hx hb dX4_pass_246 (by decide) ?_
                      have eT : (set3 (fo (stand1 (nI q)) j (fo (turn1 (nI q)) nc f)) (19 + 3 * j) 0 (((fo (stand1 (nI q)) j (fo (turn1 (nI q)) nc f)) (20 + 3 * j)) + (1 + (((nI q) - 20) / 4))) ((fo (stand1 (nI q)) j (fo (turn1 (nI q)) nc f)) (21 + 3 * j))) = stand1 (nI q) j (fo (stand1 (nI q)) j (fo (turn1 (nI q)) nc f)) := st_eq (sa_2 c_130 (sf_1 c_139 c_150 c_199) c_218 c_229 (hIF.2.2 j (by omega)).1)
                      exact ih (j + 1) (by omega) _ _ (P_eq (congrArg (fun F9 => SM cI cL S C T nc nt F9 g) eT) hP) (D_fst sm_fst hD) hS _ (lv_sub hl [0, 2, 3, 4, 5, 6] rfl)
                    ·
                      refine lv_aload hx hb dX4_pass_232 (lv_at hl 0 rfl) ?_
                      refine lv_iconst (v := 0) hx hb dX4_pass_234 (by decide) ?_
                      refine w_ildM hx hb hK hP (sm_t (by omega)) rfl 0 rfl (by decide) (by decide) (v := (fo (stand1 (nI q)) j (fo (turn1 (nI q)) nc f)) (19 + 3 * j)) (s19_0) dX4_pass_235 ?_
                      refine lv_iconst (v := 2) hx hb dX4_pass_236 (by decide) ?_
                      refine lv_isub hx hb dX4_pass_237 ?_
                      refine lv_goto (tgt := 242) hx hb dX4_pass_238 (by decide) ?_
                      refine w_istJ (ws' := SM cI cL S C T nc nt (set3 (fo (stand1 (nI q)) j (fo (turn1 (nI q)) nc f)) (19 + 3 * j) (((fo (stand1 (nI q)) j (fo (turn1 (nI q)) nc f)) (19 + 3 * j)) - 2) (((fo (stand1 (nI q)) j (fo (turn1 (nI q)) nc f)) (20 + 3 * j)) + (1 + (((nI q) - 20) / 4))) ((fo (stand1 (nI q)) j (fo (turn1 (nI q)) nc f)) (21 + 3 * j))) g) hx hb hK hP hD hS 0 (J_t0 hnc (by omega) (((fo (stand1 (nI q)) j (fo (turn1 (nI q)) nc f)) (19 + 3 * j)) - 2)) rfl rfl (by decide) (by decide) dX4_pass_242 (fun H locs hP hD hS => ?_)
                      refine lv_iinc (v := nI (j + 1)) (lv' := [(5, .int (nI (j + 1))), (6, .ref (T j)), (4, .int (nI nt)), (3, .ref (S 4)), (2, .int (f 5)), (1, .int (nI q)), (0, .ref (S 0))]) hx hb dX4_pass_243 hl (k := 1) rfl (nI_succ _).symm (by decide) rfl (fun ls hl => ?_)
                      refine lv_goto (tgt := 113) hx hb dX4_pass_246 (by decide) ?_
                      have eT : (set3 (fo (stand1 (nI q)) j (fo (turn1 (nI q)) nc f)) (19 + 3 * j) (((fo (stand1 (nI q)) j (fo (turn1 (nI q)) nc f)) (19 + 3 * j)) - 2) (((fo (stand1 (nI q)) j (fo (turn1 (nI q)) nc f)) (20 + 3 * j)) + (1 + (((nI q) - 20) / 4))) ((fo (stand1 (nI q)) j (fo (turn1 (nI q)) nc f)) (21 + 3 * j))) = stand1 (nI q) j (fo (stand1 (nI q)) j (fo (turn1 (nI q)) nc f)) := st_eq (sa_3 c_130 (sf_1 c_139 c_150 c_199) c_218 c_229 (hIF.2.2 j (by omega)).1)
                      exact ih (j + 1) (by omega) _ _ (P_eq (congrArg (fun F9 => SM cI cL S C T nc nt F9 g) eT) hP) (D_fst sm_fst hD) hS _ (lv_sub hl [0, 2, 3, 4, 5, 6] rfl)
                ·
                  refine lv_bipush (v := 100) hx hb dX4_pass_202 (by decide) ?_
                  refine lv_goto (tgt := 211) hx hb dX4_pass_204 (by decide) ?_
                  refine w_istJ (ws' := SM cI cL S C T nc nt (set3 (fo (stand1 (nI q)) j (fo (turn1 (nI q)) nc f)) (19 + 3 * j) ((fo (stand1 (nI q)) j (fo (turn1 (nI q)) nc f)) (19 + 3 * j)) 100 ((fo (stand1 (nI q)) j (fo (turn1 (nI q)) nc f)) (21 + 3 * j))) g) hx hb hK hP hD hS 1 (J_t1 hnc (by omega) 100) rfl rfl (by decide) (by decide) dX4_pass_211 (fun H locs hP hD hS => ?_)
                  refine lv_aload hx hb dX4_pass_212 (lv_at hl 0 rfl) ?_
                  refine lv_iconst (v := 1) hx hb dX4_pass_214 (by decide) ?_
                  refine w_ildM hx hb hK hP (sm_t (by omega)) rfl 1 rfl (by decide) (by decide) (v := 100) (s19_1) dX4_pass_215 ?_
                  refine lv_bipush (v := 100) hx hb dX4_pass_216 (by decide) ?_
                  refine lv_icmp_ne (tgt := 243) hx hb dX4_pass_218 (by decide) (fun c_218 => ?_) (fun c_218 => ?_)
                  · exact absurd rfl c_218
                  refine lv_aload hx hb dX4_pass_221 (lv_at hl 0 rfl) ?_
                  refine lv_iconst (v := 0) hx hb dX4_pass_223 (by decide) ?_
                  refine lv_aload hx hb dX4_pass_224 (lv_at hl 0 rfl) ?_
                  refine lv_iconst (v := 0) hx hb dX4_pass_226 (by decide) ?_
                  refine w_ildM hx hb hK hP (sm_t (by omega)) rfl 0 rfl (by decide) (by decide) (v := (fo (stand1 (nI q)) j (fo (turn1 (nI q)) nc f)) (19 + 3 * j)) (s19_0) dX4_pass_227 ?_
                  refine lv_iconst (v := 2) hx hb dX4_pass_228 (by decide) ?_
                  refine lv_icmp_le (tgt := 241) hx hb dX4_pass_229 (by decide) (fun c_229 => ?_) (fun c_229 => ?_)
                  ·
                    refine lv_iconst (v := 0) hx hb dX4_pass_241 (by decide) ?_
                    refine w_istJ (ws' := SM cI cL S C T nc nt (set3 (fo (stand1 (nI q)) j (fo (turn1 (nI q)) nc f)) (19 + 3 * j) 0 100 ((fo (stand1 (nI q)) j (fo (turn1 (nI q)) nc f)) (21 + 3 * j))) g) hx hb hK hP hD hS 0 (J_t0 hnc (by omega) 0) rfl rfl (by decide) (by decide) dX4_pass_242 (fun H locs hP hD hS => ?_)
                    refine lv_iinc (v := nI (j + 1)) (lv' := [(5, .int (nI (j + 1))), (6, .ref (T j)), (4, .int (nI nt)), (3, .ref (S 4)), (2, .int (f 5)), (1, .int (nI q)), (0, .ref (S 0))]) hx hb dX4_pass_243 hl (k := 1) rfl (nI_succ _).symm (by decide) rfl (fun ls hl => ?_)
                    refine lv_goto (tgt := 113) hx hb dX4_pass_246 (by decide) ?_
                    have eT : (set3 (fo (stand1 (nI q)) j (fo (turn1 (nI q)) nc f)) (19 + 3 * j) 0 100 ((fo (stand1 (nI q)) j (fo (turn1 (nI q)) nc f)) (21 + 3 * j))) = stand1 (nI q) j (fo (stand1 (nI q)) j (fo (turn1 (nI q)) nc f)) := st_eq (sa_2 c_130 (sf_2 c_139 c_150 c_199) rfl c_229 (hIF.2.2 j (by omega)).1)
                    exact ih (j + 1) (by omega) _ _ (P_eq (congrArg (fun F9 => SM cI cL S C T nc nt F9 g) eT) hP) (D_fst sm_fst hD) hS _ (lv_sub hl [0, 2, 3, 4, 5, 6] rfl)
                  ·
                    refine lv_aload hx hb dX4_pass_232 (lv_at hl 0 rfl) ?_
                    refine lv_iconst (v := 0) hx hb dX4_pass_234 (by decide) ?_
                    refine w_ildM hx hb hK hP (sm_t (by omega)) rfl 0 rfl (by decide) (by decide) (v := (fo (stand1 (nI q)) j (fo (turn1 (nI q)) nc f)) (19 + 3 * j)) (s19_0) dX4_pass_235 ?_
                    refine lv_iconst (v := 2) hx hb dX4_pass_236 (by decide) ?_
                    refine lv_isub hx hb dX4_pass_237 ?_
                    refine lv_goto (tgt := 242) hx hb dX4_pass_238 (by decide) ?_
                    refine w_istJ (ws' := SM cI cL S C T nc nt (set3 (fo (stand1 (nI q)) j (fo (turn1 (nI q)) nc f)) (19 + 3 * j) (((fo (stand1 (nI q)) j (fo (turn1 (nI q)) nc f)) (19 + 3 * j)) - 2) 100 ((fo (stand1 (nI q)) j (fo (turn1 (nI q)) nc f)) (21 + 3 * j))) g) hx hb hK hP hD hS 0 (J_t0 hnc (by omega) (((fo (stand1 (nI q)) j (fo (turn1 (nI q)) nc f)) (19 + 3 * j)) - 2)) rfl rfl (by decide) (by decide) dX4_pass_242 (fun H locs hP hD hS => ?_)
                    refine lv_iinc (v := nI (j + 1)) (lv' := [(5, .int (nI (j + 1))), (6, .ref (T j)), (4, .int (nI nt)), (3, .ref (S 4)), (2, .int (f 5)), (1, .int (nI q)), (0, .ref (S 0))]) hx hb dX4_pass_243 hl (k := 1) rfl (nI_succ _).symm (by decide) rfl (fun ls hl => ?_)
                    refine lv_goto (tgt := 113) hx hb dX4_pass_246 (by decide) ?_
                    have eT : (set3 (fo (stand1 (nI q)) j (fo (turn1 (nI q)) nc f)) (19 + 3 * j) (((fo (stand1 (nI q)) j (fo (turn1 (nI q)) nc f)) (19 + 3 * j)) - 2) 100 ((fo (stand1 (nI q)) j (fo (turn1 (nI q)) nc f)) (21 + 3 * j))) = stand1 (nI q) j (fo (stand1 (nI q)) j (fo (turn1 (nI q)) nc f)) := st_eq (sa_3 c_130 (sf_2 c_139 c_150 c_199) rfl c_229 (hIF.2.2 j (by omega)).1)
                    exact ih (j + 1) (by omega) _ _ (P_eq (congrArg (fun F9 => SM cI cL S C T nc nt F9 g) eT) hP) (D_fst sm_fst hD) hS _ (lv_sub hl [0, 2, 3, 4, 5, 6] rfl)
          ·
            refine lv_goto (tgt := 243) hx hb dX4_pass_133 (by decide) ?_
            refine lv_iinc (v := nI (j + 1)) (lv' := [(5, .int (nI (j + 1))), (6, .ref (T j)), (4, .int (nI nt)), (3, .ref (S 4)), (2, .int (f 5)), (1, .int (nI q)), (0, .ref (S 0))]) hx hb dX4_pass_243 hl (k := 1) rfl (nI_succ _).symm (by decide) rfl (fun ls hl => ?_)
            refine lv_goto (tgt := 113) hx hb dX4_pass_246 (by decide) ?_
            have eT : (fo (stand1 (nI q)) j (fo (turn1 (nI q)) nc f)) = stand1 (nI q) j (fo (stand1 (nI q)) j (fo (turn1 (nI q)) nc f)) := st_eq0 c_130
            exact ih (j + 1) (by omega) _ _ (P_eq (congrArg (fun F9 => SM cI cL S C T nc nt F9 g) eT) hP) (D_fst sm_fst hD) hS _ (lv_sub hl [0, 2, 3, 4, 5, 6] rfl)
      exact lp1 nt 0 (by omega) _ _ hP hD hS _ (lv_sub hl [0, 1, 2, 3, 4, 5] rfl)
    | succ n ih =>
      intro j hj   H locs hP hD hS ls hl
      have hIF : Inv (fo (turn1 (nI q)) j f) := Inv.fo_ (N := 4) (fun f i hi h => h.turn (bd_n (n := 40) hq (by decide)) hi) hI j (by omega)
      refine lv_iload hx hb dX4_pass_22 (lv_at hl 0 rfl) ?_
      refine lv_iload hx hb dX4_pass_24 (lv_at hl 1 rfl) ?_
      refine lv_icmp_ge (tgt := 101) hx hb dX4_pass_26 (by decide) (fun c_26 => ?_) (fun c_26 => ?_)
      · exact absurd c_26 (nI_ge (by omega) (by omega))
      refine lv_aload_n hx hb dX4_pass_29 rfl (lv_at hl 2 rfl) ?_
      refine lv_iload hx hb dX4_pass_30 (lv_at hl 0 rfl) ?_
      refine w_qldA hx hb hK hP (sm_b 3 rfl) rfl j rfl (by omega) (by omega) (v := C j) rfl dX4_pass_32 ?_
      refine lv_astore (lv' := [(6, .ref (C j)), (5, .int (nI j)), (4, .int (nI nc)), (3, .ref (S 3)), (2, .int (f 5)), (1, .int (nI q)), (0, .ref (S 0))]) hx hb dX4_pass_33 hl (by decide) rfl (fun ls hl => ?_)
      refine lv_aload hx hb dX4_pass_35 (lv_at hl 0 rfl) ?_
      refine lv_iconst (v := 1) hx hb dX4_pass_37 (by decide) ?_
      refine w_ildM hx hb hK hP (sm_c (by omega)) rfl 1 rfl (by decide) (by decide) (v := (fo (turn1 (nI q)) j f) (8 + 3 * j)) rfl dX4_pass_38 ?_
      refine lv_if_le (tgt := 55) hx hb dX4_pass_39 (by decide) (fun c_39 => ?_) (fun c_39 => ?_)
      ·
        refine lv_aload hx hb dX4_pass_55 (lv_at hl 0 rfl) ?_
        refine lv_iconst (v := 2) hx hb dX4_pass_57 (by decide) ?_
        refine w_ildM hx hb hK hP (sm_c (by omega)) rfl 2 rfl (by decide) (by decide) (v := (fo (turn1 (nI q)) j f) (9 + 3 * j)) rfl dX4_pass_58 ?_
        refine lv_bipush (v := 100) hx hb dX4_pass_59 (by decide) ?_
        refine lv_icmp_le (tgt := 70) hx hb dX4_pass_61 (by decide) (fun c_61 => ?_) (fun c_61 => ?_)
        rotate_left
        · exact absurd (tu_x (hIF.2.1 j (by omega)).2.2) c_61
        refine lv_aload hx hb dX4_pass_70 (lv_at hl 0 rfl) ?_
        refine lv_iconst (v := 0) hx hb dX4_pass_72 (by decide) ?_
        refine lv_dup2_11 hx hb dX4_pass_73 rfl rfl ?_
        refine w_ildM hx hb hK hP (sm_c (by omega)) rfl 0 rfl (by decide) (by decide) (v := (fo (turn1 (nI q)) j f) (7 + 3 * j)) rfl dX4_pass_74 ?_
        refine lv_iload_n hx hb dX4_pass_75 rfl (lv_at hl 5 rfl) ?_
        refine lv_bipush (v := 10) hx hb dX4_pass_76 (by decide) ?_
        refine lv_idiv hx hb dX4_pass_78 (by decide) ?_
        refine lv_iconst (v := 1) hx hb dX4_pass_79 (by decide) ?_
        refine lv_iadd hx hb dX4_pass_80 ?_
        refine lv_isub hx hb dX4_pass_81 ?_
        refine w_istJ (ws' := SM cI cL S C T nc nt (set3 (fo (turn1 (nI q)) j f) (7 + 3 * j) (((fo (turn1 (nI q)) j f) (7 + 3 * j)) - (((nI q) / 10) + 1)) ((fo (turn1 (nI q)) j f) (8 + 3 * j)) ((fo (turn1 (nI q)) j f) (9 + 3 * j))) g) hx hb hK hP hD hS 0 (J_cw0 hnc (by omega) (((fo (turn1 (nI q)) j f) (7 + 3 * j)) - (((nI q) / 10) + 1)) rfl rfl) rfl rfl (by decide) (by decide) dX4_pass_82 (fun H locs hP hD hS => ?_)
        refine lv_aload hx hb dX4_pass_83 (lv_at hl 0 rfl) ?_
        refine lv_iconst (v := 0) hx hb dX4_pass_85 (by decide) ?_
        refine w_ildM hx hb hK hP (sm_c (by omega)) rfl 0 rfl (by decide) (by decide) (v := ((fo (turn1 (nI q)) j f) (7 + 3 * j)) - (((nI q) / 10) + 1)) (s7_0) dX4_pass_86 ?_
        refine lv_if_ge (tgt := 95) hx hb dX4_pass_87 (by decide) (fun c_87 => ?_) (fun c_87 => ?_)
        ·
          refine lv_iinc (v := nI (j + 1)) (lv' := [(5, .int (nI (j + 1))), (6, .ref (C j)), (4, .int (nI nc)), (3, .ref (S 3)), (2, .int (f 5)), (1, .int (nI q)), (0, .ref (S 0))]) hx hb dX4_pass_95 hl (k := 1) rfl (nI_succ _).symm (by decide) rfl (fun ls hl => ?_)
          refine lv_goto (tgt := 22) hx hb dX4_pass_98 (by decide) ?_
          have eT : (set3 (fo (turn1 (nI q)) j f) (7 + 3 * j) (((fo (turn1 (nI q)) j f) (7 + 3 * j)) - (((nI q) / 10) + 1)) ((fo (turn1 (nI q)) j f) (8 + 3 * j)) ((fo (turn1 (nI q)) j f) (9 + 3 * j))) = turn1 (nI q) j (fo (turn1 (nI q)) j f) := tn_eq (co_ge (Int32.not_lt.mpr c_87)) (tu_c c_39)
          exact ih (j + 1) (by omega) _ _ (P_eq (congrArg (fun F9 => SM cI cL S C T nc nt F9 g) eT) hP) (D_fst sm_fst hD) hS _ (lv_sub hl [0, 2, 3, 4, 5, 6] rfl)
        ·
          refine lv_aload hx hb dX4_pass_90 (lv_at hl 0 rfl) ?_
          refine lv_iconst (v := 0) hx hb dX4_pass_92 (by decide) ?_
          refine lv_iconst (v := 0) hx hb dX4_pass_93 (by decide) ?_
          refine w_istJ (ws' := SM cI cL S C T nc nt (set3 (fo (turn1 (nI q)) j f) (7 + 3 * j) 0 ((fo (turn1 (nI q)) j f) (8 + 3 * j)) ((fo (turn1 (nI q)) j f) (9 + 3 * j))) g) hx hb hK hP hD hS 0 (J_c0 hnc (by omega) 0) rfl rfl (by decide) (by decide) dX4_pass_94 (fun H locs hP hD hS => ?_)
          refine lv_iinc (v := nI (j + 1)) (lv' := [(5, .int (nI (j + 1))), (6, .ref (C j)), (4, .int (nI nc)), (3, .ref (S 3)), (2, .int (f 5)), (1, .int (nI q)), (0, .ref (S 0))]) hx hb dX4_pass_95 hl (k := 1) rfl (nI_succ _).symm (by decide) rfl (fun ls hl => ?_)
          refine lv_goto (tgt := 22) hx hb dX4_pass_98 (by decide) ?_
          have eT : (set3 (fo (turn1 (nI q)) j f) (7 + 3 * j) 0 ((fo (turn1 (nI q)) j f) (8 + 3 * j)) ((fo (turn1 (nI q)) j f) (9 + 3 * j))) = turn1 (nI q) j (fo (turn1 (nI q)) j f) := tn_eq (co_lt (Int32.not_le.mp c_87)) (tu_c c_39)
          exact ih (j + 1) (by omega) _ _ (P_eq (congrArg (fun F9 => SM cI cL S C T nc nt F9 g) eT) hP) (D_fst sm_fst hD) hS _ (lv_sub hl [0, 2, 3, 4, 5, 6] rfl)
      ·
        refine lv_aload hx hb dX4_pass_42 (lv_at hl 0 rfl) ?_
        refine lv_iconst (v := 2) hx hb dX4_pass_44 (by decide) ?_
        refine lv_dup2_11 hx hb dX4_pass_45 rfl rfl ?_
        refine w_ildM hx hb hK hP (sm_c (by omega)) rfl 2 rfl (by decide) (by decide) (v := (fo (turn1 (nI q)) j f) (9 + 3 * j)) rfl dX4_pass_46 ?_
        refine lv_aload hx hb dX4_pass_47 (lv_at hl 0 rfl) ?_
        refine lv_iconst (v := 0) hx hb dX4_pass_49 (by decide) ?_
        refine w_ildM hx hb hK hP (sm_c (by omega)) rfl 0 rfl (by decide) (by decide) (v := (fo (turn1 (nI q)) j f) (7 + 3 * j)) rfl dX4_pass_50 ?_
        refine lv_iconst (v := 3) hx hb dX4_pass_51 (by decide) ?_
        refine lv_idiv hx hb dX4_pass_52 (by decide) ?_
        refine lv_iadd hx hb dX4_pass_53 ?_
        refine w_istJ (ws' := SM cI cL S C T nc nt (set3 (fo (turn1 (nI q)) j f) (7 + 3 * j) ((fo (turn1 (nI q)) j f) (7 + 3 * j)) ((fo (turn1 (nI q)) j f) (8 + 3 * j)) (((fo (turn1 (nI q)) j f) (9 + 3 * j)) + (((fo (turn1 (nI q)) j f) (7 + 3 * j)) / 3))) g) hx hb hK hP hD hS 2 (J_cw2 hnc (by omega) (((fo (turn1 (nI q)) j f) (9 + 3 * j)) + (((fo (turn1 (nI q)) j f) (7 + 3 * j)) / 3)) rfl rfl) rfl rfl (by decide) (by decide) dX4_pass_54 (fun H locs hP hD hS => ?_)
        refine lv_aload hx hb dX4_pass_55 (lv_at hl 0 rfl) ?_
        refine lv_iconst (v := 2) hx hb dX4_pass_57 (by decide) ?_
        refine w_ildM hx hb hK hP (sm_c (by omega)) rfl 2 rfl (by decide) (by decide) (v := ((fo (turn1 (nI q)) j f) (9 + 3 * j)) + (((fo (turn1 (nI q)) j f) (7 + 3 * j)) / 3)) (s7_2) dX4_pass_58 ?_
        refine lv_bipush (v := 100) hx hb dX4_pass_59 (by decide) ?_
        refine lv_icmp_le (tgt := 70) hx hb dX4_pass_61 (by decide) (fun c_61 => ?_) (fun c_61 => ?_)
        ·
          refine lv_aload hx hb dX4_pass_70 (lv_at hl 0 rfl) ?_
          refine lv_iconst (v := 0) hx hb dX4_pass_72 (by decide) ?_
          refine lv_dup2_11 hx hb dX4_pass_73 rfl rfl ?_
          refine w_ildM hx hb hK hP (sm_c (by omega)) rfl 0 rfl (by decide) (by decide) (v := (fo (turn1 (nI q)) j f) (7 + 3 * j)) (s7_0) dX4_pass_74 ?_
          refine lv_iload_n hx hb dX4_pass_75 rfl (lv_at hl 5 rfl) ?_
          refine lv_bipush (v := 10) hx hb dX4_pass_76 (by decide) ?_
          refine lv_idiv hx hb dX4_pass_78 (by decide) ?_
          refine lv_iconst (v := 1) hx hb dX4_pass_79 (by decide) ?_
          refine lv_iadd hx hb dX4_pass_80 ?_
          refine lv_isub hx hb dX4_pass_81 ?_
          refine w_istJ (ws' := SM cI cL S C T nc nt (set3 (fo (turn1 (nI q)) j f) (7 + 3 * j) (((fo (turn1 (nI q)) j f) (7 + 3 * j)) - (((nI q) / 10) + 1)) ((fo (turn1 (nI q)) j f) (8 + 3 * j)) (((fo (turn1 (nI q)) j f) (9 + 3 * j)) + (((fo (turn1 (nI q)) j f) (7 + 3 * j)) / 3))) g) hx hb hK hP hD hS 0 (J_c0 hnc (by omega) (((fo (turn1 (nI q)) j f) (7 + 3 * j)) - (((nI q) / 10) + 1))) rfl rfl (by decide) (by decide) dX4_pass_82 (fun H locs hP hD hS => ?_)
          refine lv_aload hx hb dX4_pass_83 (lv_at hl 0 rfl) ?_
          refine lv_iconst (v := 0) hx hb dX4_pass_85 (by decide) ?_
          refine w_ildM hx hb hK hP (sm_c (by omega)) rfl 0 rfl (by decide) (by decide) (v := ((fo (turn1 (nI q)) j f) (7 + 3 * j)) - (((nI q) / 10) + 1)) (s7_0) dX4_pass_86 ?_
          refine lv_if_ge (tgt := 95) hx hb dX4_pass_87 (by decide) (fun c_87 => ?_) (fun c_87 => ?_)
          ·
            refine lv_iinc (v := nI (j + 1)) (lv' := [(5, .int (nI (j + 1))), (6, .ref (C j)), (4, .int (nI nc)), (3, .ref (S 3)), (2, .int (f 5)), (1, .int (nI q)), (0, .ref (S 0))]) hx hb dX4_pass_95 hl (k := 1) rfl (nI_succ _).symm (by decide) rfl (fun ls hl => ?_)
            refine lv_goto (tgt := 22) hx hb dX4_pass_98 (by decide) ?_
            have eT : (set3 (fo (turn1 (nI q)) j f) (7 + 3 * j) (((fo (turn1 (nI q)) j f) (7 + 3 * j)) - (((nI q) / 10) + 1)) ((fo (turn1 (nI q)) j f) (8 + 3 * j)) (((fo (turn1 (nI q)) j f) (9 + 3 * j)) + (((fo (turn1 (nI q)) j f) (7 + 3 * j)) / 3))) = turn1 (nI q) j (fo (turn1 (nI q)) j f) := tn_eq (co_ge (Int32.not_lt.mpr c_87)) (tu_a c_39 c_61)
            exact ih (j + 1) (by omega) _ _ (P_eq (congrArg (fun F9 => SM cI cL S C T nc nt F9 g) eT) hP) (D_fst sm_fst hD) hS _ (lv_sub hl [0, 2, 3, 4, 5, 6] rfl)
          ·
            refine lv_aload hx hb dX4_pass_90 (lv_at hl 0 rfl) ?_
            refine lv_iconst (v := 0) hx hb dX4_pass_92 (by decide) ?_
            refine lv_iconst (v := 0) hx hb dX4_pass_93 (by decide) ?_
            refine w_istJ (ws' := SM cI cL S C T nc nt (set3 (fo (turn1 (nI q)) j f) (7 + 3 * j) 0 ((fo (turn1 (nI q)) j f) (8 + 3 * j)) (((fo (turn1 (nI q)) j f) (9 + 3 * j)) + (((fo (turn1 (nI q)) j f) (7 + 3 * j)) / 3))) g) hx hb hK hP hD hS 0 (J_c0 hnc (by omega) 0) rfl rfl (by decide) (by decide) dX4_pass_94 (fun H locs hP hD hS => ?_)
            refine lv_iinc (v := nI (j + 1)) (lv' := [(5, .int (nI (j + 1))), (6, .ref (C j)), (4, .int (nI nc)), (3, .ref (S 3)), (2, .int (f 5)), (1, .int (nI q)), (0, .ref (S 0))]) hx hb dX4_pass_95 hl (k := 1) rfl (nI_succ _).symm (by decide) rfl (fun ls hl => ?_)
            refine lv_goto (tgt := 22) hx hb dX4_pass_98 (by decide) ?_
            have eT : (set3 (fo (turn1 (nI q)) j f) (7 + 3 * j) 0 ((fo (turn1 (nI q)) j f) (8 + 3 * j)) (((fo (turn1 (nI q)) j f) (9 + 3 * j)) + (((fo (turn1 (nI q)) j f) (7 + 3 * j)) / 3))) = turn1 (nI q) j (fo (turn1 (nI q)) j f) := tn_eq (co_lt (Int32.not_le.mp c_87)) (tu_a c_39 c_61)
            exact ih (j + 1) (by omega) _ _ (P_eq (congrArg (fun F9 => SM cI cL S C T nc nt F9 g) eT) hP) (D_fst sm_fst hD) hS _ (lv_sub hl [0, 2, 3, 4, 5, 6] rfl)
        ·
          refine lv_aload hx hb dX4_pass_64 (lv_at hl 0 rfl) ?_
          refine lv_iconst (v := 2) hx hb dX4_pass_66 (by decide) ?_
          refine lv_bipush (v := 100) hx hb dX4_pass_67 (by decide) ?_
          refine w_istJ (ws' := SM cI cL S C T nc nt (set3 (fo (turn1 (nI q)) j f) (7 + 3 * j) ((fo (turn1 (nI q)) j f) (7 + 3 * j)) ((fo (turn1 (nI q)) j f) (8 + 3 * j)) 100) g) hx hb hK hP hD hS 2 (J_c2 hnc (by omega) 100) rfl rfl (by decide) (by decide) dX4_pass_69 (fun H locs hP hD hS => ?_)
          refine lv_aload hx hb dX4_pass_70 (lv_at hl 0 rfl) ?_
          refine lv_iconst (v := 0) hx hb dX4_pass_72 (by decide) ?_
          refine lv_dup2_11 hx hb dX4_pass_73 rfl rfl ?_
          refine w_ildM hx hb hK hP (sm_c (by omega)) rfl 0 rfl (by decide) (by decide) (v := (fo (turn1 (nI q)) j f) (7 + 3 * j)) (s7_0) dX4_pass_74 ?_
          refine lv_iload_n hx hb dX4_pass_75 rfl (lv_at hl 5 rfl) ?_
          refine lv_bipush (v := 10) hx hb dX4_pass_76 (by decide) ?_
          refine lv_idiv hx hb dX4_pass_78 (by decide) ?_
          refine lv_iconst (v := 1) hx hb dX4_pass_79 (by decide) ?_
          refine lv_iadd hx hb dX4_pass_80 ?_
          refine lv_isub hx hb dX4_pass_81 ?_
          refine w_istJ (ws' := SM cI cL S C T nc nt (set3 (fo (turn1 (nI q)) j f) (7 + 3 * j) (((fo (turn1 (nI q)) j f) (7 + 3 * j)) - (((nI q) / 10) + 1)) ((fo (turn1 (nI q)) j f) (8 + 3 * j)) 100) g) hx hb hK hP hD hS 0 (J_c0 hnc (by omega) (((fo (turn1 (nI q)) j f) (7 + 3 * j)) - (((nI q) / 10) + 1))) rfl rfl (by decide) (by decide) dX4_pass_82 (fun H locs hP hD hS => ?_)
          refine lv_aload hx hb dX4_pass_83 (lv_at hl 0 rfl) ?_
          refine lv_iconst (v := 0) hx hb dX4_pass_85 (by decide) ?_
          refine w_ildM hx hb hK hP (sm_c (by omega)) rfl 0 rfl (by decide) (by decide) (v := ((fo (turn1 (nI q)) j f) (7 + 3 * j)) - (((nI q) / 10) + 1)) (s7_0) dX4_pass_86 ?_
          refine lv_if_ge (tgt := 95) hx hb dX4_pass_87 (by decide) (fun c_87 => ?_) (fun c_87 => ?_)
          ·
            refine lv_iinc (v := nI (j + 1)) (lv' := [(5, .int (nI (j + 1))), (6, .ref (C j)), (4, .int (nI nc)), (3, .ref (S 3)), (2, .int (f 5)), (1, .int (nI q)), (0, .ref (S 0))]) hx hb dX4_pass_95 hl (k := 1) rfl (nI_succ _).symm (by decide) rfl (fun ls hl => ?_)
            refine lv_goto (tgt := 22) hx hb dX4_pass_98 (by decide) ?_
            have eT : (set3 (fo (turn1 (nI q)) j f) (7 + 3 * j) (((fo (turn1 (nI q)) j f) (7 + 3 * j)) - (((nI q) / 10) + 1)) ((fo (turn1 (nI q)) j f) (8 + 3 * j)) 100) = turn1 (nI q) j (fo (turn1 (nI q)) j f) := tn_eq (co_ge (Int32.not_lt.mpr c_87)) (tu_b c_39 c_61)
            exact ih (j + 1) (by omega) _ _ (P_eq (congrArg (fun F9 => SM cI cL S C T nc nt F9 g) eT) hP) (D_fst sm_fst hD) hS _ (lv_sub hl [0, 2, 3, 4, 5, 6] rfl)
          ·
            refine lv_aload hx hb dX4_pass_90 (lv_at hl 0 rfl) ?_
            refine lv_iconst (v := 0) hx hb dX4_pass_92 (by decide) ?_
            refine lv_iconst (v := 0) hx hb dX4_pass_93 (by decide) ?_
            refine w_istJ (ws' := SM cI cL S C T nc nt (set3 (fo (turn1 (nI q)) j f) (7 + 3 * j) 0 ((fo (turn1 (nI q)) j f) (8 + 3 * j)) 100) g) hx hb hK hP hD hS 0 (J_c0 hnc (by omega) 0) rfl rfl (by decide) (by decide) dX4_pass_94 (fun H locs hP hD hS => ?_)
            refine lv_iinc (v := nI (j + 1)) (lv' := [(5, .int (nI (j + 1))), (6, .ref (C j)), (4, .int (nI nc)), (3, .ref (S 3)), (2, .int (f 5)), (1, .int (nI q)), (0, .ref (S 0))]) hx hb dX4_pass_95 hl (k := 1) rfl (nI_succ _).symm (by decide) rfl (fun ls hl => ?_)
            refine lv_goto (tgt := 22) hx hb dX4_pass_98 (by decide) ?_
            have eT : (set3 (fo (turn1 (nI q)) j f) (7 + 3 * j) 0 ((fo (turn1 (nI q)) j f) (8 + 3 * j)) 100) = turn1 (nI q) j (fo (turn1 (nI q)) j f) := tn_eq (co_lt (Int32.not_le.mp c_87)) (tu_b c_39 c_61)
            exact ih (j + 1) (by omega) _ _ (P_eq (congrArg (fun F9 => SM cI cL S C T nc nt F9 g) eT) hP) (D_fst sm_fst hD) hS _ (lv_sub hl [0, 2, 3, 4, 5, 6] rfl)
  exact lp0 nc 0 (by omega) _ _ hP hD hS _ (lv_sub hl [0, 1, 2, 3, 4, 5] rfl)
