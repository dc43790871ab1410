set_option maxHeartbeats 4000000 in
set_option maxRecDepth 100000 in
theorem mX4_digest (l : Launch) (D : va_G) (cI cC cT cL : ClassId) (M : Nat → Nat) (th : Int32) (nc nt : Nat) (f k g : Nat → Int32) (hnc : nc ≤ 4) (hnt : nt ≤ 6) (h : Nat) (hh : h < 2 ^ 30) (h0 : f 0 = nI h) : M0 l yX4_digest wsX4_digest ({ frames := 3, cells := 10, slots := 100, locals := 67 } : Room) D (TY cI cC cT cL) [.ref (M 0)] (MW cI M th nc nt f k g) (some (.long (digF nc nt f g))) (MW cI M 0 nc nt f k g) 10 100 := by
  refine M0_of (cc := cX4_digest) (maxL := 4) (ret := (some .long)) (by decide +kernel) rfl (Nat.le_of_ble_eq_true rfl) ?_
  intro p e s m args below meth c A0 B ls hl
  obtain ⟨hx, hb, hml, hr, hown, hts, hlocks, hK, hP, hD, hA, hST, hnm⟩ := B
  have hown : s.vm.findClass RX4 = some m.cls := hown
  have hS : va_S A0 s.heap s.heap [] := va_S.rf
  have hl : lv_has ls 4 [(0, .ref (M 0))] := hl
  refine lv_aload_n hx hb dX4_digest_0 rfl (lv_at hl 0 rfl) ?_
  refine lv_iconst (v := 0) hx hb dX4_digest_1 (by decide) ?_
  refine w_put (C := RX4) hx hb hts iX4_digest_X4 tyX4_ok nmX4 hown hK hP hD hS 0 rfl rfl 0 (by decide) fX4_digest_19 rfl rfl rfl rfl (Nat.le_of_ble_eq_true rfl) (ws' := MW cI M 0 nc nt f k g) rfl dX4_digest_2 (fun H locs hP hD hS => ?_)
  refine lv_ldc2 hx hb hown (hts _ kX4_digest_111) dX4_digest_5 ?_
  refine lv_lstore_n (lv' := [(1, .long 1103), (0, .ref (M 0))]) hx hb dX4_digest_8 rfl hl (by decide) rfl (fun ls hl => ?_)
  refine lv_iconst (v := 0) hx hb dX4_digest_9 (by decide) ?_
  refine lv_istore_n (lv' := [(3, .int 0), (1, .long 1103), (0, .ref (M 0))]) hx hb dX4_digest_10 rfl hl (by decide) rfl (fun ls hl => ?_)
  have lp0 : ∀ (n j : Nat), j + n = 10 → ∀ (H : Heap) (locs : List Loc), va_P D vwCl (MW cI M 0 nc nt f k g) H → va_D A0 (MW cI M 0 nc nt f k g) → va_S A0 s.heap H locs → ∀ ls, lv_has ls 4 [(3, .int (nI j)), (1, .long (dgf (cntF nt f g) 1103 j)), (0, .ref (M 0))] → W p l e ({ frames := 3, cells := 10, slots := 100, locals := 67 } : Room) s m args below meth c H locs j (10 * j) (Q0 below D (some (.long (digF nc nt f g))) (MW cI M 0 nc nt f k g) A0 args s 10 100) (F0 m 11 ls []) := by
    intro n
    induction n with
    | zero =>
      intro j hj   H locs hP hD hS ls hl
      have hje : 10 = j := by omega
      subst hje
      refine lv_iload_n hx hb dX4_digest_11 rfl (lv_at hl 0 rfl) ?_
      refine lv_bipush (v := 10) hx hb dX4_digest_12 (by decide) ?_
      refine lv_icmp_ge (tgt := 36) hx hb dX4_digest_14 (by decide) (fun c_14 => ?_) (fun c_14 => ?_)
      rotate_left
      · exact absurd (by decide) c_14
      refine lv_iconst (v := 0) hx hb dX4_digest_36 (by decide) ?_
      refine lv_istore_n (lv' := [(3, .int 0), (1, .long (dgf (cntF nt f g) 1103 10)), (0, .ref (M 0))]) hx hb dX4_digest_37 rfl hl (by decide) rfl (fun ls hl => ?_)
      have lp1 : ∀ (n j : Nat), j + n = 7 → ∀ (H : Heap) (locs : List Loc), va_P D vwCl (MW cI M 0 nc nt f k g) H → va_D A0 (MW cI M 0 nc nt f k g) → va_S A0 s.heap H locs → ∀ ls, lv_has ls 4 [(3, .int (nI j)), (1, .long (dgf g (dgf (cntF nt f g) 1103 10) j)), (0, .ref (M 0))] → W p l e ({ frames := 3, cells := 10, slots := 100, locals := 67 } : Room) s m args below meth c H locs 10 (10 * 10) (Q0 below D (some (.long (digF nc nt f g))) (MW cI M 0 nc nt f k g) A0 args s 10 100) (F0 m 38 ls []) := by
        intro n
        induction n with
        | zero =>
          intro j hj   H locs hP hD hS ls hl
          have hje : 7 = j := by omega
          subst hje
          refine lv_iload_n hx hb dX4_digest_38 rfl (lv_at hl 0 rfl) ?_
          refine lv_bipush (v := 7) hx hb dX4_digest_39 (by decide) ?_
          refine lv_icmp_ge (tgt := 64) hx hb dX4_digest_41 (by decide) (fun c_41 => ?_) (fun c_41 => ?_)
          rotate_left
          · exact absurd (by decide) c_41
          refine lv_iconst (v := 0) hx hb dX4_digest_64 (by decide) ?_
          refine lv_istore_n (lv' := [(3, .int 0), (1, .long (dgf g (dgf (cntF nt f g) 1103 10) 7)), (0, .ref (M 0))]) hx hb dX4_digest_65 rfl hl (by decide) rfl (fun ls hl => ?_)
          have lp2 : ∀ (n j : Nat), j + n = (3 * nc) → ∀ (H : Heap) (locs : List Loc), va_P D vwCl (MW cI M 0 nc nt f k g) H → va_D A0 (MW cI M 0 nc nt f k g) → va_S A0 s.heap H locs → ∀ ls, lv_has ls 4 [(3, .int (nI j)), (1, .long (dgf (fun k => f (7 + k)) (dgf g (dgf (cntF nt f g) 1103 10) 7) j)), (0, .ref (M 0))] → W p l e ({ frames := 3, cells := 10, slots := 100, locals := 67 } : Room) s m args below meth c H locs 10 (10 * 10) (Q0 below D (some (.long (digF nc nt f g))) (MW cI M 0 nc nt f k g) A0 args s 10 100) (F0 m 66 ls []) := by
            intro n
            induction n with
            | zero =>
              intro j hj   H locs hP hD hS ls hl
              have hje : (3 * nc) = j := by omega
              subst hje
              refine lv_iload_n hx hb dX4_digest_66 rfl (lv_at hl 0 rfl) ?_
              refine lv_iconst (v := 3) hx hb dX4_digest_67 (by decide) ?_
              refine lv_aload_n hx hb dX4_digest_68 rfl (lv_at hl 2 rfl) ?_
              refine w_get hx hb hts iX4_digest_X4 hown hK hP 0 rfl rfl 1 (by decide) fX4_digest_23 rfl rfl dX4_digest_69 ?_
              refine lv_imul hx hb dX4_digest_72 ?_
              rw [show (3 : Int32) * nI nc = nI (3 * nc) by rw [show (3 : Int32) = nI 3 from rfl, pk_mul]]
              refine lv_icmp_ge (tgt := 99) hx hb dX4_digest_73 (by decide) (fun c_73 => ?_) (fun c_73 => ?_)
              rotate_left
              · exact absurd (Int32.le_refl _) c_73
              refine lv_iconst (v := 0) hx hb dX4_digest_99 (by decide) ?_
              refine lv_istore_n (lv' := [(3, .int 0), (1, .long (dgf (fun k => f (7 + k)) (dgf g (dgf (cntF nt f g) 1103 10) 7) (3 * nc))), (0, .ref (M 0))]) hx hb dX4_digest_100 rfl hl (by decide) rfl (fun ls hl => ?_)
              have lp3 : ∀ (n j : Nat), j + n = (3 * nt) → ∀ (H : Heap) (locs : List Loc), va_P D vwCl (MW cI M 0 nc nt f k g) H → va_D A0 (MW cI M 0 nc nt f k g) → va_S A0 s.heap H locs → ∀ ls, lv_has ls 4 [(3, .int (nI j)), (1, .long (dgf (fun k => f (19 + k)) (dgf (fun k => f (7 + k)) (dgf g (dgf (cntF nt f g) 1103 10) 7) (3 * nc)) j)), (0, .ref (M 0))] → W p l e ({ frames := 3, cells := 10, slots := 100, locals := 67 } : Room) s m args below meth c H locs 10 (10 * 10) (Q0 below D (some (.long (digF nc nt f g))) (MW cI M 0 nc nt f k g) A0 args s 10 100) (F0 m 101 ls []) := by
                intro n
                induction n with
                | zero =>
                  intro j hj   H locs hP hD hS ls hl
                  have hje : (3 * nt) = j := by omega
                  subst hje
                  refine lv_iload_n hx hb dX4_digest_101 rfl (lv_at hl 0 rfl) ?_
                  refine lv_iconst (v := 3) hx hb dX4_digest_102 (by decide) ?_
                  refine lv_aload_n hx hb dX4_digest_103 rfl (lv_at hl 2 rfl) ?_
                  refine w_get hx hb hts iX4_digest_X4 hown hK hP 0 rfl rfl 2 (by decide) fX4_digest_30 rfl rfl dX4_digest_104 ?_
                  refine lv_imul hx hb dX4_digest_107 ?_
                  rw [show (3 : Int32) * nI nt = nI (3 * nt) by rw [show (3 : Int32) = nI 3 from rfl, pk_mul]]
                  refine lv_icmp_ge (tgt := 134) hx hb dX4_digest_108 (by decide) (fun c_108 => ?_) (fun c_108 => ?_)
                  rotate_left
                  · exact absurd (Int32.le_refl _) c_108
                  refine lv_lload_n hx hb dX4_digest_134 rfl (lv_at hl 1 rfl) ?_
                  exact e0_l hx hb hr hlocks hP hS dX4_digest_135 (by decide) (by decide) (rfl)
                | succ n ih =>
                  intro j hj   H locs hP hD hS ls hl
                  refine lv_iload_n hx hb dX4_digest_101 rfl (lv_at hl 0 rfl) ?_
                  refine lv_iconst (v := 3) hx hb dX4_digest_102 (by decide) ?_
                  refine lv_aload_n hx hb dX4_digest_103 rfl (lv_at hl 2 rfl) ?_
                  refine w_get hx hb hts iX4_digest_X4 hown hK hP 0 rfl rfl 2 (by decide) fX4_digest_30 rfl rfl dX4_digest_104 ?_
                  refine lv_imul hx hb dX4_digest_107 ?_
                  rw [show (3 : Int32) * nI nt = nI (3 * nt) by rw [show (3 : Int32) = nI 3 from rfl, pk_mul]]
                  refine lv_icmp_ge (tgt := 134) hx hb dX4_digest_108 (by decide) (fun c_108 => ?_) (fun c_108 => ?_)
                  · exact absurd c_108 (nI_ge (by omega) (by omega))
                  refine lv_lload_n hx hb dX4_digest_111 rfl (lv_at hl 1 rfl) ?_
                  refine lv_ldc2 hx hb hown (hts _ kX4_digest_113) dX4_digest_112 ?_
                  refine lv_lmul hx hb dX4_digest_115 ?_
                  refine lv_aload_n hx hb dX4_digest_116 rfl (lv_at hl 2 rfl) ?_
                  refine w_get hx hb hts iX4_digest_X4 hown hK hP 0 rfl rfl 3 (by decide) fX4_digest_9 rfl rfl dX4_digest_117 ?_
                  refine lv_bipush (v := 19) hx hb dX4_digest_120 (by decide) ?_
                  refine lv_iload_n hx hb dX4_digest_122 rfl (lv_at hl 0 rfl) ?_
                  refine lv_iadd hx hb dX4_digest_123 ?_
                  refine w_ild hx hb hK hP 1 0 rfl rfl (19 + j) (nI_add 19 j) (by omega) (by decide) (v := f (19 + j)) rfl dX4_digest_124 ?_
                  refine lv_i2l hx hb dX4_digest_125 rfl ?_
                  refine lv_ladd hx hb dX4_digest_126 ?_
                  refine lv_lstore_n (lv' := [(1, .long (((dgf (fun k => f (19 + k)) (dgf (fun k => f (7 + k)) (dgf g (dgf (cntF nt f g) 1103 10) 7) (3 * nc)) j) * 31) + ((f (19 + j)).toInt64))), (3, .int (nI j)), (0, .ref (M 0))]) hx hb dX4_digest_127 rfl hl (by decide) rfl (fun ls hl => ?_)
                  refine lv_iinc (v := nI (j + 1)) (lv' := [(3, .int (nI (j + 1))), (1, .long (((dgf (fun k => f (19 + k)) (dgf (fun k => f (7 + k)) (dgf g (dgf (cntF nt f g) 1103 10) 7) (3 * nc)) j) * 31) + ((f (19 + j)).toInt64))), (0, .ref (M 0))]) hx hb dX4_digest_128 hl (k := 1) rfl (nI_succ _).symm (by decide) rfl (fun ls hl => ?_)
                  refine lv_goto (tgt := 101) hx hb dX4_digest_131 (by decide) ?_
                  exact ih (j + 1) (by omega) _ _ hP hD hS _ (lv_sub hl [0, 1, 2] rfl)
              exact lp3 (3 * nt) 0 (by omega) _ _ hP hD hS _ (lv_sub hl [0, 1, 2] rfl)
            | succ n ih =>
              intro j hj   H locs hP hD hS ls hl
              refine lv_iload_n hx hb dX4_digest_66 rfl (lv_at hl 0 rfl) ?_
              refine lv_iconst (v := 3) hx hb dX4_digest_67 (by decide) ?_
              refine lv_aload_n hx hb dX4_digest_68 rfl (lv_at hl 2 rfl) ?_
              refine w_get hx hb hts iX4_digest_X4 hown hK hP 0 rfl rfl 1 (by decide) fX4_digest_23 rfl rfl dX4_digest_69 ?_
              refine lv_imul hx hb dX4_digest_72 ?_
              rw [show (3 : Int32) * nI nc = nI (3 * nc) by rw [show (3 : Int32) = nI 3 from rfl, pk_mul]]
              refine lv_icmp_ge (tgt := 99) hx hb dX4_digest_73 (by decide) (fun c_73 => ?_) (fun c_73 => ?_)
              · exact absurd c_73 (nI_ge (by omega) (by omega))
              refine lv_lload_n hx hb dX4_digest_76 rfl (lv_at hl 1 rfl) ?_
              refine lv_ldc2 hx hb hown (hts _ kX4_digest_113) dX4_digest_77 ?_
              refine lv_lmul hx hb dX4_digest_80 ?_
              refine lv_aload_n hx hb dX4_digest_81 rfl (lv_at hl 2 rfl) ?_
              refine w_get hx hb hts iX4_digest_X4 hown hK hP 0 rfl rfl 3 (by decide) fX4_digest_9 rfl rfl dX4_digest_82 ?_
              refine lv_bipush (v := 7) hx hb dX4_digest_85 (by decide) ?_
              refine lv_iload_n hx hb dX4_digest_87 rfl (lv_at hl 0 rfl) ?_
              refine lv_iadd hx hb dX4_digest_88 ?_
              refine w_ild hx hb hK hP 1 0 rfl rfl (7 + j) (nI_add 7 j) (by omega) (by decide) (v := f (7 + j)) rfl dX4_digest_89 ?_
              refine lv_i2l hx hb dX4_digest_90 rfl ?_
              refine lv_ladd hx hb dX4_digest_91 ?_
              refine lv_lstore_n (lv' := [(1, .long (((dgf (fun k => f (7 + k)) (dgf g (dgf (cntF nt f g) 1103 10) 7) j) * 31) + ((f (7 + j)).toInt64))), (3, .int (nI j)), (0, .ref (M 0))]) hx hb dX4_digest_92 rfl hl (by decide) rfl (fun ls hl => ?_)
              refine lv_iinc (v := nI (j + 1)) (lv' := [(3, .int (nI (j + 1))), (1, .long (((dgf (fun k => f (7 + k)) (dgf g (dgf (cntF nt f g) 1103 10) 7) j) * 31) + ((f (7 + j)).toInt64))), (0, .ref (M 0))]) hx hb dX4_digest_93 hl (k := 1) rfl (nI_succ _).symm (by decide) rfl (fun ls hl => ?_)
              refine lv_goto (tgt := 66) hx hb dX4_digest_96 (by decide) ?_
              exact ih (j + 1) (by omega) _ _ hP hD hS _ (lv_sub hl [0, 1, 2] rfl)
          exact lp2 (3 * nc) 0 (by omega) _ _ hP hD hS _ (lv_sub hl [0, 1, 2] rfl)
        | succ n ih =>
          intro j hj   H locs hP hD hS ls hl
          refine lv_iload_n hx hb dX4_digest_38 rfl (lv_at hl 0 rfl) ?_
          refine lv_bipush (v := 7) hx hb dX4_digest_39 (by decide) ?_
          refine lv_icmp_ge (tgt := 64) hx hb dX4_digest_41 (by decide) (fun c_41 => ?_) (fun c_41 => ?_)
          · exact absurd c_41 (nI_ge (b := 7) (by omega) (by decide))
          refine lv_lload_n hx hb dX4_digest_44 rfl (lv_at hl 1 rfl) ?_
          refine lv_ldc2 hx hb hown (hts _ kX4_digest_113) dX4_digest_45 ?_
          refine lv_lmul hx hb dX4_digest_48 ?_
          refine lv_aload_n hx hb dX4_digest_49 rfl (lv_at hl 2 rfl) ?_
          refine w_get hx hb hts iX4_digest_X4 hown hK hP 0 rfl rfl 5 (by decide) fX4_digest_16 rfl rfl dX4_digest_50 ?_
          refine lv_iload_n hx hb dX4_digest_53 rfl (lv_at hl 0 rfl) ?_
          refine w_ild hx hb hK hP 3 0 rfl rfl j rfl (by omega) (by decide) (v := g j) rfl dX4_digest_54 ?_
          refine lv_i2l hx hb dX4_digest_55 rfl ?_
          refine lv_ladd hx hb dX4_digest_56 ?_
          refine lv_lstore_n (lv' := [(1, .long (((dgf g (dgf (cntF nt f g) 1103 10) j) * 31) + ((g j).toInt64))), (3, .int (nI j)), (0, .ref (M 0))]) hx hb dX4_digest_57 rfl hl (by decide) rfl (fun ls hl => ?_)
          refine lv_iinc (v := nI (j + 1)) (lv' := [(3, .int (nI (j + 1))), (1, .long (((dgf g (dgf (cntF nt f g) 1103 10) j) * 31) + ((g j).toInt64))), (0, .ref (M 0))]) hx hb dX4_digest_58 hl (k := 1) rfl (nI_succ _).symm (by decide) rfl (fun ls hl => ?_)
          refine lv_goto (tgt := 38) hx hb dX4_digest_61 (by decide) ?_
          exact ih (j + 1) (by omega) _ _ hP hD hS _ (lv_sub hl [0, 1, 2] rfl)
      exact lp1 7 0 (by omega) _ _ hP hD hS _ (lv_sub hl [0, 1, 2] rfl)
    | succ n ih =>
      intro j hj   H locs hP hD hS ls hl
      refine lv_iload_n hx hb dX4_digest_11 rfl (lv_at hl 0 rfl) ?_
      refine lv_bipush (v := 10) hx hb dX4_digest_12 (by decide) ?_
      refine lv_icmp_ge (tgt := 36) hx hb dX4_digest_14 (by decide) (fun c_14 => ?_) (fun c_14 => ?_)
      · exact absurd c_14 (nI_ge (b := 10) (by omega) (by decide))
      refine lv_lload_n hx hb dX4_digest_17 rfl (lv_at hl 1 rfl) ?_
      refine lv_ldc2 hx hb hown (hts _ kX4_digest_113) dX4_digest_18 ?_
      refine lv_lmul hx hb dX4_digest_21 ?_
      refine lv_aload_n hx hb dX4_digest_22 rfl (lv_at hl 2 rfl) ?_
      refine lv_iload_n hx hb dX4_digest_23 rfl (lv_at hl 0 rfl) ?_
      refine c0_V (As := [.int (nI j)]) (rest := [.long ((dgf (cntF nt f g) 1103 j) * 31)]) ⟨hx, hb, hml, hown, hts⟩ (mX4_counted l D cI cC cT cL M 0 nc nt f k g (nI j) j rfl (by omega) hnt h (by omega) h0) (cwV 1 hts gX4_digest_X4_counted rfl rfl rfl pX4_counted ⟨Nat.le_of_ble_eq_true rfl, Nat.le_of_ble_eq_true rfl⟩) hK hP hD hS hA hST (Jn_mw) 0 rfl rfl rfl rfl hl.1 rfl (Nat.le_of_ble_eq_true rfl) dX4_digest_24 ⟨(by show j + 1 ≤ 10; omega), (by show 10 * j + 10 ≤ 100; omega)⟩ rfl (fun H locs hP hD hS => ?_)
      refine lv_i2l hx hb dX4_digest_27 rfl ?_
      refine lv_ladd hx hb dX4_digest_28 ?_
      refine lv_lstore_n (lv' := [(1, .long (((dgf (cntF nt f g) 1103 j) * 31) + ((cntF nt f g j).toInt64))), (3, .int (nI j)), (0, .ref (M 0))]) hx hb dX4_digest_29 rfl hl (by decide) rfl (fun ls hl => ?_)
      refine lv_iinc (v := nI (j + 1)) (lv' := [(3, .int (nI (j + 1))), (1, .long (((dgf (cntF nt f g) 1103 j) * 31) + ((cntF nt f g j).toInt64))), (0, .ref (M 0))]) hx hb dX4_digest_30 hl (k := 1) rfl (nI_succ _).symm (by decide) rfl (fun ls hl => ?_)
      refine lv_goto (tgt := 11) hx hb dX4_digest_33 (by decide) ?_
      exact ih (j + 1) (by omega) _ _ hP hD hS _ (lv_sub hl [0, 1, 2] rfl)
  exact lp0 10 0 (by omega) _ _ hP hD hS _ (lv_sub hl [0, 1, 2] rfl)

set_option maxHeartbeats 4000000 in
set_option maxRecDepth 100000 in
theorem mX4_share (l : Launch) (D : va_G) (cI cC cT cL : ClassId) (M : Nat → Nat) (th : Int32) (nc nt : Nat) (f k g : Nat → Int32) (hnt : nt ≤ 6) : M0 l yX4_share wsX4_share ({ frames := 2, cells := 0, slots := 0, locals := 45 } : Room) D (TY cI cC cT cL) [.ref (M 0)] (MW cI M th nc nt f k g) (some (.double (shareF nt f))) (MW cI M 0 nc nt f k g) 0 0 := by
  refine M0_of (cc := cX4_share) (maxL := 2) (ret := (some .double)) (by decide +kernel) rfl (Nat.le_of_ble_eq_true rfl) ?_
  intro p e s m args below meth c A0 B ls hl
  obtain ⟨hx, hb, hml, hr, hown, hts, hlocks, hK, hP, hD, hA, hST, hnm⟩ := B
  have hown : s.vm.findClass RX4 = some m.cls := hown
  have hS : va_S A0 s.heap s.heap [] := va_S.rf
  have hl : lv_has ls 2 [(0, .ref (M 0))] := hl
  refine lv_aload_n hx hb dX4_share_0 rfl (lv_at hl 0 rfl) ?_
  refine lv_iconst (v := 0) hx hb dX4_share_1 (by decide) ?_
  refine w_put (C := RX4) hx hb hts iX4_share_X4 tyX4_ok nmX4 hown hK hP hD hS 0 rfl rfl 0 (by decide) fX4_share_19 rfl rfl rfl rfl (Nat.le_of_ble_eq_true rfl) (ws' := MW cI M 0 nc nt f k g) rfl dX4_share_2 (fun H locs hP hD hS => ?_)
  refine lv_aload_n hx hb dX4_share_5 rfl (lv_at hl 0 rfl) ?_
  refine lv_iconst (v := 2) hx hb dX4_share_6 (by decide) ?_
  refine c0_V (As := [.int 2]) (rest := []) ⟨hx, hb, hml, hown, hts⟩ (mX4_sum_2 l D cI cC cT cL M 0 nc nt f k g hnt) (cwV 1 hts gX4_share_X4_sum rfl rfl rfl pX4_sum ⟨Nat.le_of_ble_eq_true rfl, Nat.le_of_ble_eq_true rfl⟩) hK hP hD hS hA hST (Jn_mw) 0 rfl rfl rfl rfl hl.1 rfl (Nat.le_of_ble_eq_true rfl) dX4_share_7 ⟨Nat.le_of_ble_eq_true rfl, Nat.le_of_ble_eq_true rfl⟩ rfl (fun H locs hP hD hS => ?_)
  refine lv_aload_n hx hb dX4_share_10 rfl (lv_at hl 0 rfl) ?_
  refine w_get hx hb hts iX4_share_X4 hown hK hP 0 rfl rfl 3 (by decide) fX4_share_9 rfl rfl dX4_share_11 ?_
  refine lv_bipush (v := 6) hx hb dX4_share_14 (by decide) ?_
  refine w_ild hx hb hK hP 1 0 rfl rfl 6 rfl (by decide) (by decide) (v := f 6) rfl dX4_share_16 ?_
  refine lv_iadd hx hb dX4_share_17 ?_
  refine lv_istore_n (lv' := [(1, .int ((sumD f nt) + (f 6))), (0, .ref (M 0))]) hx hb dX4_share_18 rfl hl (by decide) rfl (fun ls hl => ?_)
  refine lv_iload_n hx hb dX4_share_19 rfl (lv_at hl 0 rfl) ?_
  refine lv_if_ne (tgt := 27) hx hb dX4_share_20 (by decide) (fun c_20 => ?_) (fun c_20 => ?_)
  ·
    refine lv_aload_n hx hb dX4_share_27 rfl (lv_at hl 1 rfl) ?_
    refine lv_iconst (v := 2) hx hb dX4_share_28 (by decide) ?_
    refine c0_V (As := [.int 2]) (rest := []) ⟨hx, hb, hml, hown, hts⟩ (mX4_sum_2 l D cI cC cT cL M 0 nc nt f k g hnt) (cwV 1 hts gX4_share_X4_sum rfl rfl rfl pX4_sum ⟨Nat.le_of_ble_eq_true rfl, Nat.le_of_ble_eq_true rfl⟩) hK hP hD hS hA hST (Jn_mw) 0 rfl rfl rfl rfl hl.1 rfl (Nat.le_of_ble_eq_true rfl) dX4_share_29 ⟨Nat.le_of_ble_eq_true rfl, Nat.le_of_ble_eq_true rfl⟩ rfl (fun H locs hP hD hS => ?_)
    refine lv_i2d hx hb dX4_share_32 ?_
    refine lv_iload_n hx hb dX4_share_33 rfl (lv_at hl 0 rfl) ?_
    refine lv_i2d hx hb dX4_share_34 ?_
    refine lv_ddiv hx hb dX4_share_35 (fq_div _ _ c_20) ?_
    exact e0_d hx hb hr hlocks hP hS dX4_share_36 (by decide) (by decide) (by rw [shareF, if_neg c_20])
  ·
    refine lv_dconst0 hx hb dX4_share_23 ?_
    refine lv_goto (tgt := 36) hx hb dX4_share_24 (by decide) ?_
    exact e0_d hx hb hr hlocks hP hS dX4_share_36 (by decide) (by decide) (by rw [shareF, if_pos c_20])

set_option maxHeartbeats 4000000 in
set_option maxRecDepth 100000 in
theorem mX4_init (l : Launch) (D : va_G) (cI cC cT cL : ClassId) (h0 : Nat) : MN l yX4_init wsX4_init ({ frames := 1, cells := 3, slots := 81, locals := 41 } : Room) D (TY cI cC cT cL) [.ref h0] ([(h0, .inr (4, [.int 0, .int 0, .int 0, .null, .null, .null]))]) (fun w => ∃ M : Nat → Nat, M 0 = h0 ∧ w = MW cI M 0 0 0 (fun _ => 0) (fun _ => 0) (fun _ => 20)) 3 81 := by
  refine MN_of (cc := cX4_init) (maxL := 1) (ret := none) (by decide +kernel) rfl (Nat.le_of_ble_eq_true rfl) ?_
  intro p e s m args below meth c A0 B ls hl
  obtain ⟨hx, hb, hml, hr, hown, hts, hlocks, hK, hP, hD, hA, hST, hnm⟩ := B
  have hown : s.vm.findClass RX4 = some m.cls := hown
  have hS : va_S A0 s.heap s.heap [] := va_S.rf
  have hl : lv_has ls 1 [(0, .ref h0)] := hl
  refine lv_aload_n hx hb dX4_init_0 rfl (lv_at hl 0 rfl) ?_
  refine W.objInit hx hb hown (hts _ oiX4_init) (hts _ ojX4_init) (hts _ okX4_init) rfl (by rw [hml]; exact hl.1) rfl dX4_init_1 (Nat.le_of_ble_eq_true rfl) (Nat.le_of_ble_eq_true rfl) ?_
  refine W.eq (g2 := F0 m 4 ls []) rfl ?_
  refine lv_aload_n hx hb dX4_init_4 rfl (lv_at hl 0 rfl) ?_
  refine lv_bipush (v := 37) hx hb dX4_init_5 (by decide) ?_
  refine w_newi hx hb (hts _ acX4_init_int) hK hP hD hS hA rfl 37 rfl (by decide) (Nat.le_of_ble_eq_true rfl) (Nat.le_of_ble_eq_true rfl) dX4_init_7 (fun q1 H hP hD hS => ?_)
  have hP : va_P D vwCl ([(h0, .inr (4, [.int 0, .int 0, .int 0, .null, .null, .null])), (q1, .inl (cI, 37, .inl (fun _ => 0)))]) H := hP
  have hD : va_D A0 ([(h0, .inr (4, [.int 0, .int 0, .int 0, .null, .null, .null])), (q1, .inl (cI, 37, .inl (fun _ => 0)))]) := hD
  refine w_putF (C := RX4) hx hb hts iX4_init_X4 tyX4_ok nmX4 hown hK hP hD hS 0 rfl rfl 3 (by decide) fX4_init_9 rfl rfl hnm rfl rfl rfl (Nat.le_of_ble_eq_true rfl) (ws' := [(h0, .inr (4, [.int 0, .int 0, .int 0, .ref q1, .null, .null])), (q1, .inl (cI, 37, .inl (fun _ => 0)))]) rfl dX4_init_9 (fun H locs hP hD hS => ?_)
  refine lv_aload_n hx hb dX4_init_12 rfl (lv_at hl 0 rfl) ?_
  refine lv_bipush (v := 37) hx hb dX4_init_13 (by decide) ?_
  refine w_newi hx hb (hts _ acX4_init_int) hK hP hD hS hA rfl 37 rfl (by decide) (Nat.le_of_ble_eq_true rfl) (Nat.le_of_ble_eq_true rfl) dX4_init_15 (fun q2 H hP hD hS => ?_)
  have hP : va_P D vwCl ([(h0, .inr (4, [.int 0, .int 0, .int 0, .ref q1, .null, .null])), (q1, .inl (cI, 37, .inl (fun _ => 0))), (q2, .inl (cI, 37, .inl (fun _ => 0)))]) H := hP
  have hD : va_D A0 ([(h0, .inr (4, [.int 0, .int 0, .int 0, .ref q1, .null, .null])), (q1, .inl (cI, 37, .inl (fun _ => 0))), (q2, .inl (cI, 37, .inl (fun _ => 0)))]) := hD
  refine w_putF (C := RX4) hx hb hts iX4_init_X4 tyX4_ok nmX4 hown hK hP hD hS 0 rfl rfl 4 (by decide) fX4_init_13 rfl rfl hnm rfl rfl rfl (Nat.le_of_ble_eq_true rfl) (ws' := [(h0, .inr (4, [.int 0, .int 0, .int 0, .ref q1, .ref q2, .null])), (q1, .inl (cI, 37, .inl (fun _ => 0))), (q2, .inl (cI, 37, .inl (fun _ => 0)))]) rfl dX4_init_17 (fun H locs hP hD hS => ?_)
  refine lv_aload_n hx hb dX4_init_20 rfl (lv_at hl 0 rfl) ?_
  refine lv_bipush (v := 7) hx hb dX4_init_21 (by decide) ?_
  refine w_newi hx hb (hts _ acX4_init_int) hK hP hD hS hA rfl 7 rfl (by decide) (Nat.le_of_ble_eq_true rfl) (Nat.le_of_ble_eq_true rfl) dX4_init_23 (fun q3 H hP hD hS => ?_)
  have hP : va_P D vwCl ([(h0, .inr (4, [.int 0, .int 0, .int 0, .ref q1, .ref q2, .null])), (q1, .inl (cI, 37, .inl (fun _ => 0))), (q2, .inl (cI, 37, .inl (fun _ => 0))), (q3, .inl (cI, 7, .inl (fun _ => 0)))]) H := hP
  have hD : va_D A0 ([(h0, .inr (4, [.int 0, .int 0, .int 0, .ref q1, .ref q2, .null])), (q1, .inl (cI, 37, .inl (fun _ => 0))), (q2, .inl (cI, 37, .inl (fun _ => 0))), (q3, .inl (cI, 7, .inl (fun _ => 0)))]) := hD
  refine lv_dup hx hb dX4_init_25 rfl ?_
  refine lv_iconst (v := 0) hx hb dX4_init_26 (by decide) ?_
  refine lv_bipush (v := 20) hx hb dX4_init_27 (by decide) ?_
  refine w_ist hx hb hK hP hD hS 3 0 rfl rfl 0 rfl (by decide) (by decide) (ws' := [(h0, .inr (4, [.int 0, .int 0, .int 0, .ref q1, .ref q2, .null])), (q1, .inl (cI, 37, .inl (fun _ => 0))), (q2, .inl (cI, 37, .inl (fun _ => 0))), (q3, .inl (cI, 7, .inl (upd (fun _ => 0) 0 20)))]) rfl dX4_init_29 (fun H locs hP hD hS => ?_)
  refine lv_dup hx hb dX4_init_30 rfl ?_
  refine lv_iconst (v := 1) hx hb dX4_init_31 (by decide) ?_
  refine lv_bipush (v := 20) hx hb dX4_init_32 (by decide) ?_
  refine w_ist hx hb hK hP hD hS 3 0 rfl rfl 1 rfl (by decide) (by decide) (ws' := [(h0, .inr (4, [.int 0, .int 0, .int 0, .ref q1, .ref q2, .null])), (q1, .inl (cI, 37, .inl (fun _ => 0))), (q2, .inl (cI, 37, .inl (fun _ => 0))), (q3, .inl (cI, 7, .inl (upd (upd (fun _ => 0) 0 20) 1 20)))]) rfl dX4_init_34 (fun H locs hP hD hS => ?_)
  refine lv_dup hx hb dX4_init_35 rfl ?_
  refine lv_iconst (v := 2) hx hb dX4_init_36 (by decide) ?_
  refine lv_bipush (v := 20) hx hb dX4_init_37 (by decide) ?_
  refine w_ist hx hb hK hP hD hS 3 0 rfl rfl 2 rfl (by decide) (by decide) (ws' := [(h0, .inr (4, [.int 0, .int 0, .int 0, .ref q1, .ref q2, .null])), (q1, .inl (cI, 37, .inl (fun _ => 0))), (q2, .inl (cI, 37, .inl (fun _ => 0))), (q3, .inl (cI, 7, .inl (upd (upd (upd (fun _ => 0) 0 20) 1 20) 2 20)))]) rfl dX4_init_39 (fun H locs hP hD hS => ?_)
  refine lv_dup hx hb dX4_init_40 rfl ?_
  refine lv_iconst (v := 3) hx hb dX4_init_41 (by decide) ?_
  refine lv_bipush (v := 20) hx hb dX4_init_42 (by decide) ?_
  refine w_ist hx hb hK hP hD hS 3 0 rfl rfl 3 rfl (by decide) (by decide) (ws' := [(h0, .inr (4, [.int 0, .int 0, .int 0, .ref q1, .ref q2, .null])), (q1, .inl (cI, 37, .inl (fun _ => 0))), (q2, .inl (cI, 37, .inl (fun _ => 0))), (q3, .inl (cI, 7, .inl (upd (upd (upd (upd (fun _ => 0) 0 20) 1 20) 2 20) 3 20)))]) rfl dX4_init_44 (fun H locs hP hD hS => ?_)
  refine lv_dup hx hb dX4_init_45 rfl ?_
  refine lv_iconst (v := 4) hx hb dX4_init_46 (by decide) ?_
  refine lv_bipush (v := 20) hx hb dX4_init_47 (by decide) ?_
  refine w_ist hx hb hK hP hD hS 3 0 rfl rfl 4 rfl (by decide) (by decide) (ws' := [(h0, .inr (4, [.int 0, .int 0, .int 0, .ref q1, .ref q2, .null])), (q1, .inl (cI, 37, .inl (fun _ => 0))), (q2, .inl (cI, 37, .inl (fun _ => 0))), (q3, .inl (cI, 7, .inl (upd (upd (upd (upd (upd (fun _ => 0) 0 20) 1 20) 2 20) 3 20) 4 20)))]) rfl dX4_init_49 (fun H locs hP hD hS => ?_)
  refine lv_dup hx hb dX4_init_50 rfl ?_
  refine lv_iconst (v := 5) hx hb dX4_init_51 (by decide) ?_
  refine lv_bipush (v := 20) hx hb dX4_init_52 (by decide) ?_
  refine w_ist hx hb hK hP hD hS 3 0 rfl rfl 5 rfl (by decide) (by decide) (ws' := [(h0, .inr (4, [.int 0, .int 0, .int 0, .ref q1, .ref q2, .null])), (q1, .inl (cI, 37, .inl (fun _ => 0))), (q2, .inl (cI, 37, .inl (fun _ => 0))), (q3, .inl (cI, 7, .inl (upd (upd (upd (upd (upd (upd (fun _ => 0) 0 20) 1 20) 2 20) 3 20) 4 20) 5 20)))]) rfl dX4_init_54 (fun H locs hP hD hS => ?_)
  refine lv_dup hx hb dX4_init_55 rfl ?_
  refine lv_bipush (v := 6) hx hb dX4_init_56 (by decide) ?_
  refine lv_bipush (v := 20) hx hb dX4_init_58 (by decide) ?_
  refine w_ist hx hb hK hP hD hS 3 0 rfl rfl 6 rfl (by decide) (by decide) (ws' := [(h0, .inr (4, [.int 0, .int 0, .int 0, .ref q1, .ref q2, .null])), (q1, .inl (cI, 37, .inl (fun _ => 0))), (q2, .inl (cI, 37, .inl (fun _ => 0))), (q3, .inl (cI, 7, .inl (upd (upd (upd (upd (upd (upd (upd (fun _ => 0) 0 20) 1 20) 2 20) 3 20) 4 20) 5 20) 6 20)))]) rfl dX4_init_60 (fun H locs hP hD hS => ?_)
  refine w_putF (C := RX4) hx hb hts iX4_init_X4 tyX4_ok nmX4 hown hK hP hD hS 0 rfl rfl 5 (by decide) fX4_init_16 rfl rfl hnm rfl rfl rfl (Nat.le_of_ble_eq_true rfl) (ws' := [(h0, .inr (4, [.int 0, .int 0, .int 0, .ref q1, .ref q2, .ref q3])), (q1, .inl (cI, 37, .inl (fun _ => 0))), (q2, .inl (cI, 37, .inl (fun _ => 0))), (q3, .inl (cI, 7, .inl (upd (upd (upd (upd (upd (upd (upd (fun _ => 0) 0 20) 1 20) 2 20) 3 20) 4 20) 5 20) 6 20)))]) rfl dX4_init_61 (fun H locs hP hD hS => ?_)
  have hP := P_arr hP 3 rfl (f' := fun _ => 20) (fun j hj => by rcases (show j = 0 ∨ j = 1 ∨ j = 2 ∨ j = 3 ∨ j = 4 ∨ j = 5 ∨ j = 6 by omega) with rfl | rfl | rfl | rfl | rfl | rfl | rfl <;> rfl)
  exact eN_v hx hb hr hlocks (⟨fun k => [h0, q1, q2, q3].getD k 0, rfl, rfl⟩) hP (D_fst (by rfl) hD) hS dX4_init_64 (by decide) (by decide)
