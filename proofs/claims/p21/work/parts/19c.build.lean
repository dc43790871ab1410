set_option maxHeartbeats 4000000 in
set_option maxRecDepth 100000 in
theorem mL_build (l : Launch) (D : va_G) (cI cC cT cL : ClassId) (hl0 : l.stackTraces = false) (x b0 : Nat) (A : Nat → Nat) (b L : Nat) (xs : Nat → Int32) (hL : L ≤ 260) : MX l yL_build wsL_build ({ frames := 9, cells := 2500, slots := 30000, locals := 220 } : Room) (EB b L xs) D (TY cI cC cT cL) [.ref x, .ref b] (YW cI cC cT x A b0 0 0 (fun _ => 0) (fun _ => 20)) (buildB cI cC cT cL x A b0) 2500 30000 := by
  refine MX_of (cc := cL_build) (maxL := 5) (ret := (some (.object "ColdCreameryLaw$Sim"))) (by decide +kernel) rfl (Nat.le_of_ble_eq_true rfl) ?_
  intro p e s m args below meth c A0 B hE ls hl
  obtain ⟨hx, hb, hml, hr, hown, hts, hlocks, hK, hP, hD, hA, hST, hnm⟩ := B
  have hown : s.vm.findClass RL = some m.cls := hown
  have hS : va_S A0 s.heap s.heap [] := va_S.rf
  have hl : lv_has ls 5 [(0, .ref x), (1, .ref b)] := hl
  have hAA : va_AOA .int s := hST.2.2.2.2.2.2.2.2.2.1
  obtain ⟨⟨hbl, hbA, hX⟩, hN⟩ := hE
  refine w_new (ci := 4) (fs := [.int 0, .null, .int 0, .int 0, .null, .null, .null]) hx hb hts iL_build_X4 tyX4_ok hown clL_build_10 itL_build_X4 inL_build_X4 hK hP hD hS hA rfl (fun j hj => by rcases (show j = 0 ∨ j = 1 ∨ j = 2 ∨ j = 3 ∨ j = 4 ∨ j = 5 ∨ j = 6 by omega) with rfl | rfl | rfl | rfl | rfl | rfl | rfl <;> rfl) (by show _ ≤ 2500; omega) (by show _ ≤ 30000; omega) dL_build_0 (fun q1 H hP hD hS => ?_)
  have pm : ((YW cI cC cT x A b0 0 0 (fun _ => 0) (fun _ => 20)) ++ ([(q1, .inr (4, [.int 0, .null, .int 0, .int 0, .null, .null, .null]))] : va_W)).Perm (([(q1, .inr (4, [.int 0, .null, .int 0, .int 0, .null, .null, .null]))] : va_W) ++ (YW cI cC cT x A b0 0 0 (fun _ => 0) (fun _ => 20))) := List.perm_append_comm
  have hP : va_P D vwCl (([(q1, .inr (4, [.int 0, .null, .int 0, .int 0, .null, .null, .null]))] : va_W) ++ (YW cI cC cT x A b0 0 0 (fun _ => 0) (fun _ => 20))) H := P_pm pm hP
  have hD : va_D A0 (([(q1, .inr (4, [.int 0, .null, .int 0, .int 0, .null, .null, .null]))] : va_W) ++ (YW cI cC cT x A b0 0 0 (fun _ => 0) (fun _ => 20))) := D_pm pm hD
  refine lv_dup hx hb dL_build_3 rfl ?_
  refine cX_IN (As := []) (rest := [.ref q1]) (L := YW cI cC cT x A b0 0 0 (fun _ => 0) (fun _ => 20)) ⟨hx, hb, hml, hown, hts⟩ (mX4_init l D cI cC cT cL q1) (fun _ => px_blind0) ⟨va_cnB 0 hts gL_build_X4_init_n70 rfl rfl rfl hN (hts _ inL_build_X4) pX4_init ⟨by decide, by decide⟩, rfl, hts _ imL_build_X4_init⟩ hK List.perm_append_comm hP hD hS hA hST (fun _ _ _ => trivial) rfl hl.1 rfl (Nat.le_of_ble_eq_true rfl) dL_build_4 ⟨(by show _ ≤ 2500; omega), (by show _ ≤ 30000; omega)⟩ (fun o9 w9 hB H locs hP hD hS => ?_)
  obtain ⟨rfl, S, C, T, hS0, rfl⟩ := hB
  have hP9 := hP
  have hD9 := hD
  have hS9 := hS
  subst hS0
  have hP := hP9
  have hD := hD9
  have hS := hS9
  refine W.eq (g2 := F0 m 7 ls [.ref (S 0)]) rfl ?_
  have hP : va_P D vwCl (YW cI cC cT x A b0 0 0 (fun _ => 0) (fun _ => 20) ++ (SM cI cL S C T 0 0 (fun _ => 0) (fun _ => 20))) H := hP
  have hD : va_D A0 (YW cI cC cT x A b0 0 0 (fun _ => 0) (fun _ => 20) ++ (SM cI cL S C T 0 0 (fun _ => 0) (fun _ => 20))) := hD
  refine lv_astore_n (lv' := [(2, .ref (S 0)), (0, .ref x), (1, .ref b)]) hx hb dL_build_7 rfl hl (by decide) rfl (fun ls hl => ?_)
  refine lv_iconst (v := 0) hx hb dL_build_8 (by decide) ?_
  refine lv_istore_n (lv' := [(3, .int 0), (2, .ref (S 0)), (0, .ref x), (1, .ref b)]) hx hb dL_build_9 rfl hl (by decide) rfl (fun ls hl => ?_)
  have lp0 : ∀ (n j : Nat), j + n = 4 → ∀ (F : Nat → Int32), (GS2 0 0 F (fun _ => 20) 0) → ∀ (H : Heap) (locs : List Loc), va_P D vwCl (YW cI cC cT x A b0 0 0 F (fun _ => 20) ++ (SM cI cL S C T 0 0 F (fun _ => 20))) H → va_D A0 (YW cI cC cT x A b0 0 0 F (fun _ => 20) ++ (SM cI cL S C T 0 0 F (fun _ => 20))) → va_S A0 s.heap H locs → ∀ ls, lv_has ls 5 [(3, .int (nI j)), (2, .ref (S 0)), (1, .ref b), (0, .ref x)] → W p l e ({ frames := 9, cells := 2500, slots := 30000, locals := 220 } : Room) s m args below meth c H locs (20 + 4 * j) (60 + 24 * j) (QX below D (buildB cI cC cT cL x A b0) A0 args s 2500 30000) (F0 m 10 ls []) := by
    intro n
    induction n with
    | zero =>
      intro j hj F GF H locs hP hD hS ls hl
      have hje : 4 = j := by omega
      subst hje
      refine lv_iload_n hx hb dL_build_10 rfl (lv_at hl 0 rfl) ?_
      refine lv_iconst (v := 4) hx hb dL_build_11 (by decide) ?_
      refine lv_icmp_ge (tgt := 87) hx hb dL_build_12 (by decide) (fun c_12 => ?_) (fun c_12 => ?_)
      rotate_left
      · exact absurd (by decide) c_12
      refine lv_iconst (v := 0) hx hb dL_build_87 (by decide) ?_
      refine lv_istore_n (lv' := [(3, .int 0), (2, .ref (S 0)), (1, .ref b), (0, .ref x)]) hx hb dL_build_88 rfl hl (by decide) rfl (fun ls hl => ?_)
      have lp1 : ∀ (n j : Nat), j + n = 60 → ∀ (S C T : Nat → Nat) (nc nt : Nat) (f g : Nat → Int32) (h : Nat), (GS2 nc nt f g h) → (h ≤ j) → ∀ (H : Heap) (locs : List Loc), va_P D vwCl (YW cI cC cT x A b0 nc nt f g ++ (SM cI cL S C T nc nt f g)) H → va_D A0 (YW cI cC cT x A b0 nc nt f g ++ (SM cI cL S C T nc nt f g)) → va_S A0 s.heap H locs → ∀ ls, lv_has ls 5 [(3, .int (nI j)), (2, .ref (S 0)), (1, .ref b), (0, .ref x)] → W p l e ({ frames := 9, cells := 2500, slots := 30000, locals := 220 } : Room) s m args below meth c H locs (100 + 30 * j) (300 + 300 * j) (QX below D (buildB cI cC cT cL x A b0) A0 args s 2500 30000) (F0 m 89 ls []) := by
        intro n
        induction n with
        | zero =>
          intro j hj S C T nc nt f g h G hle H locs hP hD hS ls hl
          have hje : 60 = j := by omega
          subst hje
          obtain ⟨⟨hnc, hnt, hI, hg, h0⟩, hz, hxc, hxt⟩ := id G
          refine lv_iload_n hx hb dL_build_89 rfl (lv_at hl 0 rfl) ?_
          refine lv_bipush (v := 60) hx hb dL_build_90 (by decide) ?_
          refine lv_icmp_ge (tgt := 191) hx hb dL_build_92 (by decide) (fun c_92 => ?_) (fun c_92 => ?_)
          rotate_left
          · exact absurd (by decide) c_92
          refine lv_aload_n hx hb dL_build_191 rfl (lv_at hl 1 rfl) ?_
          exact eX_a hx hb hr (Or.inl ⟨_, rfl⟩) hlocks (⟨S, C, T, nc, nt, f, g, h, rfl, G, by omega, rfl⟩) hP hD hS dL_build_192 (by omega) (by omega)
        | succ n ih =>
          intro j hj S C T nc nt f g h G hle H locs hP hD hS ls hl
          obtain ⟨⟨hnc, hnt, hI, hg, h0⟩, hz, hxc, hxt⟩ := id G
          refine lv_iload_n hx hb dL_build_89 rfl (lv_at hl 0 rfl) ?_
          refine lv_bipush (v := 60) hx hb dL_build_90 (by decide) ?_
          refine lv_icmp_ge (tgt := 191) hx hb dL_build_92 (by decide) (fun c_92 => ?_) (fun c_92 => ?_)
          · exact absurd c_92 (nI_ge (b := 60) (by omega) (by decide))
          refine lv_aload_n hx hb dL_build_95 rfl (lv_at hl 2 rfl) ?_
          refine lv_iload_n hx hb dL_build_96 rfl (lv_at hl 0 rfl) ?_
          refine lv_bipush (v := 16) hx hb dL_build_97 (by decide) ?_
          refine lv_irem hx hb dL_build_99 (by decide) ?_
          rw [shr_p j (by omega)]
          refine cX_S (As := [.ref b, .int (nI (j % 16))]) (rest := []) (L := YW cI cC cT x A b0 nc nt f g ++ (SM cI cL S C T nc nt f g)) ⟨hx, hb, hml, hown, hts⟩ (mL_cell l D cI cC cT cL b L xs (j % 16) (by omega) (by omega)) (fun _ => px_blindS) (va_cwS 2 hts gL_build_L_cell rfl rfl rfl pL_cell ⟨by decide, by decide⟩) hK pm_nil hP hD hS hA hST (es_at hX hbl hbA (D_pm pm_nil hD) hS hA) rfl hl.1 rfl (Nat.le_of_ble_eq_true rfl) dL_build_100 ⟨(by show _ ≤ 2500; omega), (by show _ ≤ 30000; omega)⟩ (fun o9 w9 hB H locs hP hD hS => ?_)
          obtain ⟨v9, rfl, rfl⟩ := hB
          refine W.eq (g2 := F0 m 103 ls [.int v9]) rfl ?_
          have hP : va_P D vwCl (YW cI cC cT x A b0 nc nt f g ++ (SM cI cL S C T nc nt f g)) H := (P_pm pm_nil.symm hP)
          have hD : va_D A0 (YW cI cC cT x A b0 nc nt f g ++ (SM cI cL S C T nc nt f g)) := (D_pm pm_nil.symm hD)
          refine lv_iload_n hx hb dL_build_103 rfl (lv_at hl 0 rfl) ?_
          refine lv_bipush (v := 16) hx hb dL_build_104 (by decide) ?_
          refine lv_idiv hx hb dL_build_106 (by decide) ?_
          refine lv_iconst (v := 4) hx hb dL_build_107 (by decide) ?_
          refine lv_imul hx hb dL_build_108 ?_
          refine lv_ishr hx hb dL_build_109 ?_
          refine lv_bipush (v := 53) hx hb dL_build_110 (by decide) ?_
          refine lv_iload_n hx hb dL_build_112 rfl (lv_at hl 0 rfl) ?_
          refine lv_imul hx hb dL_build_113 ?_
          refine lv_iadd hx hb dL_build_114 ?_
          generalize ((v9 >>> ((((nI j) / 16) * 4) &&& 31)) + (53 * (nI j))) = x8
          refine lv_istore (lv' := [(4, .int x8), (3, .int (nI j)), (2, .ref (S 0)), (1, .ref b), (0, .ref x)]) hx hb dL_build_115 hl (by decide) rfl (fun ls hl => ?_)
          refine lv_iload_n hx hb dL_build_117 rfl (lv_at hl 1 rfl) ?_
          refine lv_iconst (v := 5) hx hb dL_build_118 (by decide) ?_
          refine lv_icmp_ge (tgt := 141) hx hb dL_build_119 (by decide) (fun c_119 => ?_) (fun c_119 => ?_)
          ·
            refine lv_aload_n hx hb dL_build_141 rfl (lv_at hl 4 rfl) ?_
            refine lv_aload_n hx hb dL_build_142 rfl (lv_at hl 2 rfl) ?_
            refine lv_iload hx hb dL_build_143 (lv_at hl 0 rfl) ?_
            refine cX_SW (As := [.ref x, .ref (S 0), .int x8]) (rest := []) (L := []) ⟨hx, hb, hml, hown, hts⟩ (mL_act l D cI cC cT cL hl0 x b0 A S C T nc nt f g h G x8) (fun _ => px_blind0) (vx_cwSW 3 hts gL_build_L_act rfl rfl rfl pL_act ⟨by decide, by decide⟩) hK (List.Perm.refl _) hP hD hS hA hST (fun _ _ _ => trivial) rfl hl.1 rfl (Nat.le_of_ble_eq_true rfl) dL_build_145 ⟨(by show _ ≤ 2500; omega), (by show _ ≤ 30000; omega)⟩ (fun o9 w9 hB H locs hP hD hS => ?_)
            obtain ⟨rfl, S2, C2, T2, nc2, nt2, f2, g2, hS2, G2, rfl⟩ := hB
            rw [← hS2] at hl
            refine W.eq (g2 := F0 m 148 ls [.int 1]) rfl ?_
            have hP : va_P D vwCl (YW cI cC cT x A b0 nc2 nt2 f2 g2 ++ (SM cI cL S2 C2 T2 nc2 nt2 f2 g2)) H := hP
            have hD : va_D A0 (YW cI cC cT x A b0 nc2 nt2 f2 g2 ++ (SM cI cL S2 C2 T2 nc2 nt2 f2 g2)) := hD
            obtain ⟨⟨hnc2, hnt2, hI2, hg2, h02⟩, hz2, hxc2, hxt2⟩ := id G2
            refine lv_if_ne (tgt := 153) hx hb dL_build_148 (by decide) (fun c_148 => ?_) (fun c_148 => ?_)
            rotate_left
            · exact absurd c_148 (by decide)
            refine lv_iload_n hx hb dL_build_153 rfl (lv_at hl 1 rfl) ?_
            refine lv_bipush (v := 6) hx hb dL_build_154 (by decide) ?_
            refine lv_icmp_le (tgt := 185) hx hb dL_build_156 (by decide) (fun c_156 => ?_) (fun c_156 => ?_)
            ·
              refine lv_iinc (v := nI (j + 1)) (lv' := [(3, .int (nI (j + 1))), (4, .int x8), (2, .ref (S2 0)), (1, .ref b), (0, .ref x)]) hx hb dL_build_185 hl (k := 1) rfl (nI_succ _).symm (by decide) rfl (fun ls hl => ?_)
              refine lv_goto (tgt := 89) hx hb dL_build_188 (by decide) ?_
              exact W.widen (by omega) (by omega) (ih (j + 1) (by omega) S2 C2 T2 nc2 nt2 f2 g2 h G2 (by omega) _ _ hP hD hS _ (lv_sub hl [0, 2, 3, 4] rfl))
            ·
              refine lv_iload hx hb dL_build_159 (lv_at hl 0 rfl) ?_
              refine lv_bipush (v := 9) hx hb dL_build_161 (by decide) ?_
              refine lv_ishr hx hb dL_build_163 ?_
              refine lv_iconst (v := 2) hx hb dL_build_164 (by decide) ?_
              refine c0_S (As := [.int (x8 >>> (9 &&& 31)), .int 2]) (rest := []) (ws' := YW cI cC cT x A b0 nc2 nt2 f2 g2 ++ (SM cI cL S2 C2 T2 nc2 nt2 f2 g2)) ⟨hx, hb, hml, hown, hts⟩ (mL_below l D cI cC cT cL (x8 >>> (9 &&& 31)) 2 (by decide)) (va_cwS 2 hts gL_build_L_below rfl rfl rfl pL_below ⟨by decide, by decide⟩) hK hP hD hS hA hST (Jf_nil _).1 rfl hl.1 rfl (Nat.le_of_ble_eq_true rfl) dL_build_165 ⟨(by show _ ≤ 2500; omega), (by show _ ≤ 30000; omega)⟩ rfl (fun H locs hP hD hS => ?_)
              refine lv_if_ne (tgt := 185) hx hb dL_build_168 (by decide) (fun c_168 => ?_) (fun c_168 => ?_)
              ·
                refine lv_iinc (v := nI (j + 1)) (lv' := [(3, .int (nI (j + 1))), (4, .int x8), (2, .ref (S2 0)), (1, .ref b), (0, .ref x)]) hx hb dL_build_185 hl (k := 1) rfl (nI_succ _).symm (by decide) rfl (fun ls hl => ?_)
                refine lv_goto (tgt := 89) hx hb dL_build_188 (by decide) ?_
                exact W.widen (by omega) (by omega) (ih (j + 1) (by omega) S2 C2 T2 nc2 nt2 f2 g2 h G2 (by omega) _ _ hP hD hS _ (lv_sub hl [0, 2, 3, 4] rfl))
              ·
                refine lv_aload_n hx hb dL_build_171 rfl (lv_at hl 4 rfl) ?_
                refine lv_iconst (v := 1) hx hb dL_build_172 (by decide) ?_
                refine c1_V0 (xe_no k_pass1) (As := [.int 1]) (rest := []) (ws' := YW cI cC cT x A b0 nc2 nt2 (rep (hourF nc2 nt2 g2) (1 : Int32).toNatClampNeg f2) g2 ++ (SM cI cL S2 C2 T2 nc2 nt2 f2 g2)) ⟨hx, hb, hml, hown, hts⟩ (mX3_pass l D cI cC cT cL hl0 x b0 A nc2 nt2 f2 g2 1 hnc2 hnt2 hI2 hg2 h (by omega) h02) (cwV 1 hts gL_build_X3_pass rfl rfl rfl pX3_pass ⟨by decide, by decide⟩) hK hP hD hS hA hST ((Jf_l _ (Jf_all _ _ yw_fst))).1 ((Jf_l _ (Jf_all _ _ yw_fst))).1 0 rfl rfl rfl rfl hl.1 rfl (Nat.le_of_ble_eq_true rfl) dL_build_173 ⟨(by show _ ≤ 2500; omega), (by show _ ≤ 30000; omega)⟩ rfl (fun H locs hP hD hS => ?_)
                rw [show (1 : Int32).toNatClampNeg = 1 from rfl] at hP hD ⊢
                have hP : va_P D vwCl (YW cI cC cT x A b0 nc2 nt2 (hourF nc2 nt2 g2 f2) g2 ++ (SM cI cL S2 C2 T2 nc2 nt2 f2 g2)) H := hP
                have hD : va_D A0 (YW cI cC cT x A b0 nc2 nt2 (hourF nc2 nt2 g2 f2) g2 ++ (SM cI cL S2 C2 T2 nc2 nt2 f2 g2)) := hD
                refine W.eq (g2 := F0 m 176 ls [.int ((hourF nc2 nt2 g2 f2) 5 - f2 5)]) rfl ?_
                refine lv_aload_n hx hb dL_build_176 rfl (lv_at hl 2 rfl) ?_
                refine c0_V (As := []) (rest := [.int ((hourF nc2 nt2 g2 f2) 5 - f2 5)]) (ws' := YW cI cC cT x A b0 nc2 nt2 (hourF nc2 nt2 g2 f2) g2 ++ (SM cI cL S2 C2 T2 nc2 nt2 (hourF nc2 nt2 g2 f2) g2)) ⟨hx, hb, hml, hown, hts⟩ (mX4_pass l D cI cC cT cL S2 C2 T2 nc2 nt2 f2 g2 hnc2 hnt2 hI2 hg2 h (by omega) h02) (cwV 0 hts gL_build_X4_pass rfl rfl rfl pX4_pass ⟨by decide, by decide⟩) hK hP hD hS hA hST ((Jf_r _ (Jf_all _ _ sm_fst))).1 0 rfl rfl rfl rfl hl.1 rfl (Nat.le_of_ble_eq_true rfl) dL_build_177 ⟨(by show _ ≤ 2500; omega), (by show _ ≤ 30000; omega)⟩ rfl (fun H locs hP hD hS => ?_)
                refine lv_icmp_eq (tgt := 185) hx hb dL_build_180 (by decide) (fun c_180 => ?_) (fun c_180 => ?_)
                rotate_left
                · exact absurd rfl c_180
                refine lv_iinc (v := nI (j + 1)) (lv' := [(3, .int (nI (j + 1))), (4, .int x8), (2, .ref (S2 0)), (1, .ref b), (0, .ref x)]) hx hb dL_build_185 hl (k := 1) rfl (nI_succ _).symm (by decide) rfl (fun ls hl => ?_)
                refine lv_goto (tgt := 89) hx hb dL_build_188 (by decide) ?_
                exact W.widen (by omega) (by omega) (ih (j + 1) (by omega) S2 C2 T2 nc2 nt2 (hourF nc2 nt2 g2 f2) g2 (h + 1) (g_hour (by omega) G2) (by omega) _ _ hP hD hS _ (lv_sub hl [0, 2, 3, 4] rfl))
          ·
            refine lv_iload hx hb dL_build_122 (lv_at hl 0 rfl) ?_
            refine lv_sipush (v := 10000) hx hb dL_build_124 (by decide) ?_
            refine c0_S (As := [.int x8, .int 10000]) (rest := []) (ws' := YW cI cC cT x A b0 nc nt f g ++ (SM cI cL S C T nc nt f g)) ⟨hx, hb, hml, hown, hts⟩ (mL_below l D cI cC cT cL x8 10000 (by decide)) (va_cwS 2 hts gL_build_L_below rfl rfl rfl pL_below ⟨by decide, by decide⟩) hK hP hD hS hA hST (Jf_nil _).1 rfl hl.1 rfl (Nat.le_of_ble_eq_true rfl) dL_build_127 ⟨(by show _ ≤ 2500; omega), (by show _ ≤ 30000; omega)⟩ rfl (fun H locs hP hD hS => ?_)
            refine lv_bipush (v := 12) hx hb dL_build_130 (by decide) ?_
            refine lv_imul hx hb dL_build_132 ?_
            refine lv_iconst (v := 3) hx hb dL_build_133 (by decide) ?_
            refine lv_iadd hx hb dL_build_134 ?_
            refine lv_iload_n hx hb dL_build_135 rfl (lv_at hl 1 rfl) ?_
            refine lv_iconst (v := 2) hx hb dL_build_136 (by decide) ?_
            refine lv_irem hx hb dL_build_137 (by decide) ?_
            refine lv_iadd hx hb dL_build_138 ?_
            generalize ((((bel x8 10000) * 12) + 3) + ((nI j) - (nI j) / 2 * 2)) = x7
            refine lv_istore (lv' := [(4, .int x7), (3, .int (nI j)), (2, .ref (S 0)), (1, .ref b), (0, .ref x)]) hx hb dL_build_139 hl (by decide) rfl (fun ls hl => ?_)
            refine lv_aload_n hx hb dL_build_141 rfl (lv_at hl 4 rfl) ?_
            refine lv_aload_n hx hb dL_build_142 rfl (lv_at hl 2 rfl) ?_
            refine lv_iload hx hb dL_build_143 (lv_at hl 0 rfl) ?_
            refine cX_SW (As := [.ref x, .ref (S 0), .int x7]) (rest := []) (L := []) ⟨hx, hb, hml, hown, hts⟩ (mL_act l D cI cC cT cL hl0 x b0 A S C T nc nt f g h G x7) (fun _ => px_blind0) (vx_cwSW 3 hts gL_build_L_act rfl rfl rfl pL_act ⟨by decide, by decide⟩) hK (List.Perm.refl _) hP hD hS hA hST (fun _ _ _ => trivial) rfl hl.1 rfl (Nat.le_of_ble_eq_true rfl) dL_build_145 ⟨(by show _ ≤ 2500; omega), (by show _ ≤ 30000; omega)⟩ (fun o9 w9 hB H locs hP hD hS => ?_)
            obtain ⟨rfl, S3, C3, T3, nc3, nt3, f3, g3, hS3, G3, rfl⟩ := hB
            rw [← hS3] at hl
            refine W.eq (g2 := F0 m 148 ls [.int 1]) rfl ?_
            have hP : va_P D vwCl (YW cI cC cT x A b0 nc3 nt3 f3 g3 ++ (SM cI cL S3 C3 T3 nc3 nt3 f3 g3)) H := hP
            have hD : va_D A0 (YW cI cC cT x A b0 nc3 nt3 f3 g3 ++ (SM cI cL S3 C3 T3 nc3 nt3 f3 g3)) := hD
            obtain ⟨⟨hnc3, hnt3, hI3, hg3, h03⟩, hz3, hxc3, hxt3⟩ := id G3
            refine lv_if_ne (tgt := 153) hx hb dL_build_148 (by decide) (fun c_148 => ?_) (fun c_148 => ?_)
            rotate_left
            · exact absurd c_148 (by decide)
            refine lv_iload_n hx hb dL_build_153 rfl (lv_at hl 1 rfl) ?_
            refine lv_bipush (v := 6) hx hb dL_build_154 (by decide) ?_
            refine lv_icmp_le (tgt := 185) hx hb dL_build_156 (by decide) (fun c_156 => ?_) (fun c_156 => ?_)
            ·
              refine lv_iinc (v := nI (j + 1)) (lv' := [(3, .int (nI (j + 1))), (4, .int x7), (2, .ref (S3 0)), (1, .ref b), (0, .ref x)]) hx hb dL_build_185 hl (k := 1) rfl (nI_succ _).symm (by decide) rfl (fun ls hl => ?_)
              refine lv_goto (tgt := 89) hx hb dL_build_188 (by decide) ?_
              exact W.widen (by omega) (by omega) (ih (j + 1) (by omega) S3 C3 T3 nc3 nt3 f3 g3 h G3 (by omega) _ _ hP hD hS _ (lv_sub hl [0, 2, 3, 4] rfl))
            ·
              refine lv_iload hx hb dL_build_159 (lv_at hl 0 rfl) ?_
              refine lv_bipush (v := 9) hx hb dL_build_161 (by decide) ?_
              refine lv_ishr hx hb dL_build_163 ?_
              refine lv_iconst (v := 2) hx hb dL_build_164 (by decide) ?_
              refine c0_S (As := [.int (x7 >>> (9 &&& 31)), .int 2]) (rest := []) (ws' := YW cI cC cT x A b0 nc3 nt3 f3 g3 ++ (SM cI cL S3 C3 T3 nc3 nt3 f3 g3)) ⟨hx, hb, hml, hown, hts⟩ (mL_below l D cI cC cT cL (x7 >>> (9 &&& 31)) 2 (by decide)) (va_cwS 2 hts gL_build_L_below rfl rfl rfl pL_below ⟨by decide, by decide⟩) hK hP hD hS hA hST (Jf_nil _).1 rfl hl.1 rfl (Nat.le_of_ble_eq_true rfl) dL_build_165 ⟨(by show _ ≤ 2500; omega), (by show _ ≤ 30000; omega)⟩ rfl (fun H locs hP hD hS => ?_)
              refine lv_if_ne (tgt := 185) hx hb dL_build_168 (by decide) (fun c_168 => ?_) (fun c_168 => ?_)
              ·
                refine lv_iinc (v := nI (j + 1)) (lv' := [(3, .int (nI (j + 1))), (4, .int x7), (2, .ref (S3 0)), (1, .ref b), (0, .ref x)]) hx hb dL_build_185 hl (k := 1) rfl (nI_succ _).symm (by decide) rfl (fun ls hl => ?_)
                refine lv_goto (tgt := 89) hx hb dL_build_188 (by decide) ?_
                exact W.widen (by omega) (by omega) (ih (j + 1) (by omega) S3 C3 T3 nc3 nt3 f3 g3 h G3 (by omega) _ _ hP hD hS _ (lv_sub hl [0, 2, 3, 4] rfl))
              ·
                refine lv_aload_n hx hb dL_build_171 rfl (lv_at hl 4 rfl) ?_
                refine lv_iconst (v := 1) hx hb dL_build_172 (by decide) ?_
                refine c1_V0 (xe_no k_pass1) (As := [.int 1]) (rest := []) (ws' := YW cI cC cT x A b0 nc3 nt3 (rep (hourF nc3 nt3 g3) (1 : Int32).toNatClampNeg f3) g3 ++ (SM cI cL S3 C3 T3 nc3 nt3 f3 g3)) ⟨hx, hb, hml, hown, hts⟩ (mX3_pass l D cI cC cT cL hl0 x b0 A nc3 nt3 f3 g3 1 hnc3 hnt3 hI3 hg3 h (by omega) h03) (cwV 1 hts gL_build_X3_pass rfl rfl rfl pX3_pass ⟨by decide, by decide⟩) hK hP hD hS hA hST ((Jf_l _ (Jf_all _ _ yw_fst))).1 ((Jf_l _ (Jf_all _ _ yw_fst))).1 0 rfl rfl rfl rfl hl.1 rfl (Nat.le_of_ble_eq_true rfl) dL_build_173 ⟨(by show _ ≤ 2500; omega), (by show _ ≤ 30000; omega)⟩ rfl (fun H locs hP hD hS => ?_)
                rw [show (1 : Int32).toNatClampNeg = 1 from rfl] at hP hD ⊢
                have hP : va_P D vwCl (YW cI cC cT x A b0 nc3 nt3 (hourF nc3 nt3 g3 f3) g3 ++ (SM cI cL S3 C3 T3 nc3 nt3 f3 g3)) H := hP
                have hD : va_D A0 (YW cI cC cT x A b0 nc3 nt3 (hourF nc3 nt3 g3 f3) g3 ++ (SM cI cL S3 C3 T3 nc3 nt3 f3 g3)) := hD
                refine W.eq (g2 := F0 m 176 ls [.int ((hourF nc3 nt3 g3 f3) 5 - f3 5)]) rfl ?_
                refine lv_aload_n hx hb dL_build_176 rfl (lv_at hl 2 rfl) ?_
                refine c0_V (As := []) (rest := [.int ((hourF nc3 nt3 g3 f3) 5 - f3 5)]) (ws' := YW cI cC cT x A b0 nc3 nt3 (hourF nc3 nt3 g3 f3) g3 ++ (SM cI cL S3 C3 T3 nc3 nt3 (hourF nc3 nt3 g3 f3) g3)) ⟨hx, hb, hml, hown, hts⟩ (mX4_pass l D cI cC cT cL S3 C3 T3 nc3 nt3 f3 g3 hnc3 hnt3 hI3 hg3 h (by omega) h03) (cwV 0 hts gL_build_X4_pass rfl rfl rfl pX4_pass ⟨by decide, by decide⟩) hK hP hD hS hA hST ((Jf_r _ (Jf_all _ _ sm_fst))).1 0 rfl rfl rfl rfl hl.1 rfl (Nat.le_of_ble_eq_true rfl) dL_build_177 ⟨(by show _ ≤ 2500; omega), (by show _ ≤ 30000; omega)⟩ rfl (fun H locs hP hD hS => ?_)
                refine lv_icmp_eq (tgt := 185) hx hb dL_build_180 (by decide) (fun c_180 => ?_) (fun c_180 => ?_)
                rotate_left
                · exact absurd rfl c_180
                refine lv_iinc (v := nI (j + 1)) (lv' := [(3, .int (nI (j + 1))), (4, .int x7), (2, .ref (S3 0)), (1, .ref b), (0, .ref x)]) hx hb dL_build_185 hl (k := 1) rfl (nI_succ _).symm (by decide) rfl (fun ls hl => ?_)
                refine lv_goto (tgt := 89) hx hb dL_build_188 (by decide) ?_
                exact W.widen (by omega) (by omega) (ih (j + 1) (by omega) S3 C3 T3 nc3 nt3 (hourF nc3 nt3 g3 f3) g3 (h + 1) (g_hour (by omega) G3) (by omega) _ _ hP hD hS _ (lv_sub hl [0, 2, 3, 4] rfl))
      exact W.widen (by omega) (by omega) (lp1 60 0 (by omega) S C T 0 0 F (fun _ => 20) 0 GF (Nat.le_refl _) _ _ hP hD hS _ (lv_sub hl [0, 1, 2, 3] rfl))
    | succ n ih =>
      intro j hj F GF H locs hP hD hS ls hl
      refine lv_iload_n hx hb dL_build_10 rfl (lv_at hl 0 rfl) ?_
      refine lv_iconst (v := 4) hx hb dL_build_11 (by decide) ?_
      refine lv_icmp_ge (tgt := 87) hx hb dL_build_12 (by decide) (fun c_12 => ?_) (fun c_12 => ?_)
      · exact absurd c_12 (nI_ge (b := 4) (by omega) (by decide))
      refine lv_aload_n hx hb dL_build_15 rfl (lv_at hl 2 rfl) ?_
      refine lv_iload_n hx hb dL_build_16 rfl (lv_at hl 0 rfl) ?_
      refine cX_S (As := [.ref b, .int (nI j)]) (rest := []) (L := YW cI cC cT x A b0 0 0 F (fun _ => 20) ++ (SM cI cL S C T 0 0 F (fun _ => 20))) ⟨hx, hb, hml, hown, hts⟩ (mL_cell l D cI cC cT cL b L xs j (by omega) (by omega)) (fun _ => px_blindS) (va_cwS 2 hts gL_build_L_cell rfl rfl rfl pL_cell ⟨by decide, by decide⟩) hK pm_nil hP hD hS hA hST (es_at hX hbl hbA (D_pm pm_nil hD) hS hA) rfl hl.1 rfl (Nat.le_of_ble_eq_true rfl) dL_build_17 ⟨(by show _ ≤ 2500; omega), (by show _ ≤ 30000; omega)⟩ (fun o9 w9 hB H locs hP hD hS => ?_)
      obtain ⟨v9, rfl, rfl⟩ := hB
      refine W.eq (g2 := F0 m 20 ls [.int v9]) rfl ?_
      have hP : va_P D vwCl (YW cI cC cT x A b0 0 0 F (fun _ => 20) ++ (SM cI cL S C T 0 0 F (fun _ => 20))) H := (P_pm pm_nil.symm hP)
      have hD : va_D A0 (YW cI cC cT x A b0 0 0 F (fun _ => 20) ++ (SM cI cL S C T 0 0 F (fun _ => 20))) := (D_pm pm_nil.symm hD)
      refine lv_iconst (v := 4) hx hb dL_build_20 (by decide) ?_
      refine c0_S (As := [.int v9, .int 4]) (rest := []) (ws' := YW cI cC cT x A b0 0 0 F (fun _ => 20) ++ (SM cI cL S C T 0 0 F (fun _ => 20))) ⟨hx, hb, hml, hown, hts⟩ (mL_below l D cI cC cT cL v9 4 (by decide)) (va_cwS 2 hts gL_build_L_below rfl rfl rfl pL_below ⟨by decide, by decide⟩) hK hP hD hS hA hST (Jf_nil _).1 rfl hl.1 rfl (Nat.le_of_ble_eq_true rfl) dL_build_21 ⟨(by show _ ≤ 2500; omega), (by show _ ≤ 30000; omega)⟩ rfl (fun H locs hP hD hS => ?_)
      obtain ⟨r, hr, er⟩ := bel_n v9 4 (by decide) (by decide)
      rw [show (bel v9 4 : Int32) = nI r from er]
      refine lv_istore (lv' := [(4, .int (nI r)), (3, .int (nI j)), (2, .ref (S 0)), (1, .ref b), (0, .ref x)]) hx hb dL_build_24 hl (by decide) rfl (fun ls hl => ?_)
      have lp2 : ∀ (n k : Nat), k + n = r → ∀ (F : Nat → Int32) (kv : Int32), (GS2 0 0 F (fun _ => 20) 0) → (kv = nI n) → ∀ (H : Heap) (locs : List Loc), va_P D vwCl (YW cI cC cT x A b0 0 0 F (fun _ => 20) ++ (SM cI cL S C T 0 0 F (fun _ => 20))) H → va_D A0 (YW cI cC cT x A b0 0 0 F (fun _ => 20) ++ (SM cI cL S C T 0 0 F (fun _ => 20))) → va_S A0 s.heap H locs → ∀ ls, lv_has ls 5 [(4, .int kv), (3, .int (nI j)), (2, .ref (S 0)), (1, .ref b), (0, .ref x)] → W p l e ({ frames := 9, cells := 2500, slots := 30000, locals := 220 } : Room) s m args below meth c H locs (20 + 4 * j + k) (60 + 24 * j + 6 * k) (QX below D (buildB cI cC cT cL x A b0) A0 args s 2500 30000) (F0 m 26 ls []) := by
        intro n
        induction n with
        | zero =>
          intro k hk F kv GF hkv H locs hP hD hS ls hl
          have hje : r = k := by omega
          subst hje
          refine lv_iload hx hb dL_build_26 (lv_at hl 0 rfl) ?_
          refine lv_if_le (tgt := 81) hx hb dL_build_28 (by decide) (fun c_28 => ?_) (fun c_28 => ?_)
          rotate_left
          · exact absurd (by rw [hkv]; decide) c_28
          refine lv_iinc (v := nI (j + 1)) (lv' := [(3, .int (nI (j + 1))), (4, .int kv), (2, .ref (S 0)), (1, .ref b), (0, .ref x)]) hx hb dL_build_81 hl (k := 1) rfl (nI_succ _).symm (by decide) rfl (fun ls hl => ?_)
          refine lv_goto (tgt := 10) hx hb dL_build_84 (by decide) ?_
          exact W.widen (by omega) (by omega) (ih (j + 1) (by omega) F GF _ _ hP hD hS _ (lv_sub hl [0, 2, 3, 4] rfl))
        | succ n ih =>
          intro k hk F kv GF hkv H locs hP hD hS ls hl
          refine lv_iload hx hb dL_build_26 (lv_at hl 0 rfl) ?_
          refine lv_if_le (tgt := 81) hx hb dL_build_28 (by decide) (fun c_28 => ?_) (fun c_28 => ?_)
          · exact absurd c_28 (by rw [hkv]; exact nI_nle (by omega) (by omega))
          refine lv_aload_n hx hb dL_build_31 rfl (lv_at hl 4 rfl) ?_
          refine lv_iload_n hx hb dL_build_32 rfl (lv_at hl 1 rfl) ?_
          refine lv_bipush (v := 120) hx hb dL_build_33 (by decide) ?_
          refine c1_V0 (xe_no (k_bring (m := 120) (by omega) (by decide) (by decide))) (As := [.int (nI j), .int 120]) (rest := []) (ws' := YW cI cC cT x A b0 0 0 (bringF F (nI j).toNatClampNeg 120) (fun _ => 20) ++ (SM cI cL S C T 0 0 F (fun _ => 20))) ⟨hx, hb, hml, hown, hts⟩ (mX3_bring l D cI cC cT cL hl0 x b0 A 0 0 F (fun _ => 20) (nI j) 120 ) (cwV 2 hts gL_build_X3_bring rfl rfl rfl pX3_bring ⟨by decide, by decide⟩) hK hP hD hS hA hST ((Jf_l _ (Jf_all _ _ yw_fst))).1 ((Jf_l _ (Jf_all _ _ yw_fst))).1 0 rfl rfl rfl rfl hl.1 rfl (Nat.le_of_ble_eq_true rfl) dL_build_35 ⟨(by show _ ≤ 2500; omega), (by show _ ≤ 30000; omega)⟩ rfl (fun H locs hP hD hS => ?_)
          rw [nI_clamp (n := j) (by omega)] at hP hD ⊢
          refine lv_aload_n hx hb dL_build_38 rfl (lv_at hl 2 rfl) ?_
          refine w_getM hx hb hts iL_build_X4 hown hK hP (List.mem_append_right _ (sm_b 0 rfl)) rfl 1 (by decide) fL_build_24 rfl rfl (v := .ref (S 1)) dL_build_39 ?_
          refine lv_iload_n hx hb dL_build_42 rfl (lv_at hl 1 rfl) ?_
          refine lv_iload_n hx hb dL_build_43 rfl (lv_at hl 1 rfl) ?_
          refine lv_if_ne (tgt := 53) hx hb dL_build_44 (by decide) (fun c_44 => ?_) (fun c_44 => ?_)
          ·
            have hlim : limF j = 300 := li_0 (by omega) c_44
            refine lv_sipush (v := 300) hx hb dL_build_53 (by decide) ?_
            refine lv_aload_n hx hb dL_build_56 rfl (lv_at hl 2 rfl) ?_
            refine w_getM hx hb hts iL_build_X4 hown hK hP (List.mem_append_right _ (sm_b 0 rfl)) rfl 1 (by decide) fL_build_24 rfl rfl (v := .ref (S 1)) dL_build_57 ?_
            refine lv_iload_n hx hb dL_build_60 rfl (lv_at hl 1 rfl) ?_
            refine w_ildM hx hb hK hP (List.mem_append_right _ (sm_b 1 rfl)) rfl j rfl (by omega) (by decide) (v := F (j + 1)) (stk_at (by omega)) dL_build_61 ?_
            refine lv_bipush (v := 120) hx hb dL_build_62 (by decide) ?_
            refine lv_iadd hx hb dL_build_64 ?_
            refine w_mmin hx hb (hml.trans hl.1.symm) hown (hts _ mlL_build_28) (hts _ msL_build_min) (hts _ miL_build) (hts _ mcL_build_min) (Nat.le_of_ble_eq_true rfl) (Nat.le_of_ble_eq_true rfl) (by show _ ≤ 2500; omega) (by show _ ≤ 30000; omega) dL_build_65 ?_
            refine lv_dup_x2 hx hb dL_build_68 rfl rfl rfl ?_
            refine w_istJ (ws' := YW cI cC cT x A b0 0 0 (bringF F j 120) (fun _ => 20) ++ (SM cI cL S C T 0 0 (upd F (j + 1) (imn 300 ((F (j + 1)) + 120))) (fun _ => 20))) hx hb hK hP hD hS j (Jf_r _ (J_store j (by omega) (imn 300 ((F (j + 1)) + 120)))) rfl rfl (by omega) (by decide) dL_build_69 (fun H locs hP hD hS => ?_)
            refine lv_icmp_eq (tgt := 75) hx hb dL_build_70 (by decide) (fun c_70 => ?_) (fun c_70 => ?_)
            rotate_left
            · exact absurd (by rw [br_v hlim, up_s]) c_70
            refine lv_iinc (v := nI n) (lv' := [(4, .int (nI n)), (3, .int (nI j)), (2, .ref (S 0)), (1, .ref b), (0, .ref x)]) hx hb dL_build_75 hl (k := 0) rfl (by rw [hkv]; exact pk_m1 n) (by decide) rfl (fun ls hl => ?_)
            refine lv_goto (tgt := 26) hx hb dL_build_78 (by decide) ?_
            have eT : (upd F (j + 1) (imn 300 (F (j + 1) + 120))) = bringF F j 120 := (br_v hlim).symm
            have hP := P_eq (congrArg (fun F9 => YW cI cC cT x A b0 0 0 (bringF F j 120) (fun _ => 20) ++ (SM cI cL S C T 0 0 F9 (fun _ => 20))) eT) hP
            have hD := D_eq (congrArg (fun F9 => YW cI cC cT x A b0 0 0 (bringF F j 120) (fun _ => 20) ++ (SM cI cL S C T 0 0 F9 (fun _ => 20))) eT) hD
            exact W.widen (by omega) (by omega) (ih (k + 1) (by omega) _ (nI n) (g_bring j 120 (by omega) (by decide) (by decide) GF) rfl _ _ hP hD hS _ (lv_sub hl [0, 1, 2, 3, 4] rfl))
          ·
            have hlim : limF j = 900 := li_1 (by omega) c_44
            refine lv_sipush (v := 900) hx hb dL_build_47 (by decide) ?_
            refine lv_goto (tgt := 56) hx hb dL_build_50 (by decide) ?_
            refine lv_aload_n hx hb dL_build_56 rfl (lv_at hl 2 rfl) ?_
            refine w_getM hx hb hts iL_build_X4 hown hK hP (List.mem_append_right _ (sm_b 0 rfl)) rfl 1 (by decide) fL_build_24 rfl rfl (v := .ref (S 1)) dL_build_57 ?_
            refine lv_iload_n hx hb dL_build_60 rfl (lv_at hl 1 rfl) ?_
            refine w_ildM hx hb hK hP (List.mem_append_right _ (sm_b 1 rfl)) rfl j rfl (by omega) (by decide) (v := F (j + 1)) (stk_at (by omega)) dL_build_61 ?_
            refine lv_bipush (v := 120) hx hb dL_build_62 (by decide) ?_
            refine lv_iadd hx hb dL_build_64 ?_
            refine w_mmin hx hb (hml.trans hl.1.symm) hown (hts _ mlL_build_28) (hts _ msL_build_min) (hts _ miL_build) (hts _ mcL_build_min) (Nat.le_of_ble_eq_true rfl) (Nat.le_of_ble_eq_true rfl) (by show _ ≤ 2500; omega) (by show _ ≤ 30000; omega) dL_build_65 ?_
            refine lv_dup_x2 hx hb dL_build_68 rfl rfl rfl ?_
            refine w_istJ (ws' := YW cI cC cT x A b0 0 0 (bringF F j 120) (fun _ => 20) ++ (SM cI cL S C T 0 0 (upd F (j + 1) (imn 900 ((F (j + 1)) + 120))) (fun _ => 20))) hx hb hK hP hD hS j (Jf_r _ (J_store j (by omega) (imn 900 ((F (j + 1)) + 120)))) rfl rfl (by omega) (by decide) dL_build_69 (fun H locs hP hD hS => ?_)
            refine lv_icmp_eq (tgt := 75) hx hb dL_build_70 (by decide) (fun c_70 => ?_) (fun c_70 => ?_)
            rotate_left
            · exact absurd (by rw [br_v hlim, up_s]) c_70
            refine lv_iinc (v := nI n) (lv' := [(4, .int (nI n)), (3, .int (nI j)), (2, .ref (S 0)), (1, .ref b), (0, .ref x)]) hx hb dL_build_75 hl (k := 0) rfl (by rw [hkv]; exact pk_m1 n) (by decide) rfl (fun ls hl => ?_)
            refine lv_goto (tgt := 26) hx hb dL_build_78 (by decide) ?_
            have eT : (upd F (j + 1) (imn 900 (F (j + 1) + 120))) = bringF F j 120 := (br_v hlim).symm
            have hP := P_eq (congrArg (fun F9 => YW cI cC cT x A b0 0 0 (bringF F j 120) (fun _ => 20) ++ (SM cI cL S C T 0 0 F9 (fun _ => 20))) eT) hP
            have hD := D_eq (congrArg (fun F9 => YW cI cC cT x A b0 0 0 (bringF F j 120) (fun _ => 20) ++ (SM cI cL S C T 0 0 F9 (fun _ => 20))) eT) hD
            exact W.widen (by omega) (by omega) (ih (k + 1) (by omega) _ (nI n) (g_bring j 120 (by omega) (by decide) (by decide) GF) rfl _ _ hP hD hS _ (lv_sub hl [0, 1, 2, 3, 4] rfl))
      exact W.widen (by omega) (by omega) (lp2 r 0 (by omega) F _ GF rfl _ _ hP hD hS _ (lv_sub hl [0, 1, 2, 3, 4] rfl))
  exact W.widen (by omega) (by omega) (lp0 4 0 (by omega) (fun _ => 0) g_0 _ _ hP hD hS _ (lv_sub hl [0, 1, 3, 2] rfl))
