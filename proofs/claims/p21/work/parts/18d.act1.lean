set_option maxHeartbeats 4000000 in
set_option maxRecDepth 100000 in
theorem act_bring {p : Program} {l : Launch} {e : Env} {s : State} {m : MethodId} {args : Array Value} {below : List Frame} {meth : Method} {c : Code} {A0 : Nat → Prop} {D : va_G} {cI cC cT cL : ClassId} {x b0 : Nat} {A S C T : Nat → Nat} {nc nt h : Nat} {f g : Nat → Int32} {u cv tv : Int32} {H : Heap} {locs : List Loc} {ls : Array Slot} (EA : AE p l s m meth c args A0 D cI cC cT cL) (G : GS2 nc nt f g h) (hcv : (nc = 0 ∧ cv = -1) ∨ ∃ i, i < nc ∧ cv = nI i) (htv : (nt = 0 ∧ tv = -1) ∨ ∃ i, i < nt ∧ tv = nI i) (hP : va_P D vwCl (YW cI cC cT x A b0 nc nt f g ++ (SM cI cL S C T nc nt f g)) H) (hD : va_D A0 (YW cI cC cT x A b0 nc nt f g ++ (SM cI cL S C T nc nt f g))) (hS : va_S A0 s.heap H locs) (hl : lv_has ls 10 [(4, .int tv), (3, .int cv), (2, .int u), (1, .ref (S 0)), (0, .ref x)]) : W p l e ({ frames := 8, cells := 20, slots := 200, locals := 150 } : Room) s m args below meth c H locs 0 0 (QX below D (actB cI cC cT cL x A b0 S h) A0 args s 20 200) (F0 m 108 ls []) := by
  obtain ⟨hx, hb, hml, hr, hown, hts, hlocks, hK, hA, hST, htab, hl0⟩ := id EA
  obtain ⟨⟨hnc, hnt, hI, hg, h0⟩, hz, hxc, hxt⟩ := id G
  have hAA : va_AOA .int s := hST.2.2.2.2.2.2.2.2.2.1
  refine lv_iload_n hx hb dL_act_108 rfl (lv_at hl 2 rfl) ?_
  refine lv_iconst (v := 3) hx hb dL_act_109 (by decide) ?_
  refine lv_ishr hx hb dL_act_110 ?_
  refine lv_iconst (v := 4) hx hb dL_act_111 (by decide) ?_
  refine c0_S (As := [.int (u >>> (3 &&& 31)), .int 4]) (rest := []) (ws' := YW cI cC cT x A b0 nc nt f g ++ (SM cI cL S C T nc nt f g)) ⟨hx, hb, hml, hown, hts⟩ (mL_below l D cI cC cT cL (u >>> (3 &&& 31)) 4 (by decide)) (va_cwS 2 hts gL_act_L_below rfl rfl rfl pL_below ⟨Nat.le_of_ble_eq_true rfl, Nat.le_of_ble_eq_true rfl⟩) hK hP hD hS hA hST (Jf_nil _).1 rfl hl.1 rfl (Nat.le_of_ble_eq_true rfl) dL_act_112 ⟨Nat.le_of_ble_eq_true rfl, Nat.le_of_ble_eq_true rfl⟩ rfl (fun H locs hP hD hS => ?_)
  obtain ⟨w, hw, ew⟩ := bel_n (u >>> (3 &&& 31)) 4 (by decide) (by decide)
  rw [show (bel (u >>> (3 &&& 31)) 4 : Int32) = nI w from ew]
  refine lv_istore (lv' := [(6, .int (nI w)), (4, .int tv), (3, .int cv), (2, .int u), (1, .ref (S 0)), (0, .ref x)]) hx hb dL_act_115 hl (by decide) rfl (fun ls hl => ?_)
  refine lv_iconst (v := 1) hx hb dL_act_117 (by decide) ?_
  refine lv_iload_n hx hb dL_act_118 rfl (lv_at hl 3 rfl) ?_
  refine lv_iconst (v := 4) hx hb dL_act_119 (by decide) ?_
  refine lv_ishr hx hb dL_act_120 ?_
  refine lv_iload_n hx hb dL_act_121 rfl (lv_at hl 3 rfl) ?_
  refine lv_bipush (v := 8) hx hb dL_act_122 (by decide) ?_
  refine lv_ishr hx hb dL_act_124 ?_
  refine lv_iconst (v := 3) hx hb dL_act_125 (by decide) ?_
  refine c0_S (As := [.int (u >>> (8 &&& 31)), .int 3]) (rest := [.int (u >>> (4 &&& 31)), .int 1]) (ws' := YW cI cC cT x A b0 nc nt f g ++ (SM cI cL S C T nc nt f g)) ⟨hx, hb, hml, hown, hts⟩ (mL_below l D cI cC cT cL (u >>> (8 &&& 31)) 3 (by decide)) (va_cwS 2 hts gL_act_L_below rfl rfl rfl pL_below ⟨Nat.le_of_ble_eq_true rfl, Nat.le_of_ble_eq_true rfl⟩) hK hP hD hS hA hST (Jf_nil _).1 rfl hl.1 rfl (Nat.le_of_ble_eq_true rfl) dL_act_126 ⟨Nat.le_of_ble_eq_true rfl, Nat.le_of_ble_eq_true rfl⟩ rfl (fun H locs hP hD hS => ?_)
  refine lv_if_ne (tgt := 138) hx hb dL_act_129 (by decide) (fun c_129 => ?_) (fun c_129 => ?_)
  ·
    refine lv_bipush (v := 80) hx hb dL_act_138 (by decide) ?_
    refine c0_S (As := [.int (u >>> (4 &&& 31)), .int 80]) (rest := [.int 1]) (ws' := YW cI cC cT x A b0 nc nt f g ++ (SM cI cL S C T nc nt f g)) ⟨hx, hb, hml, hown, hts⟩ (mL_below l D cI cC cT cL (u >>> (4 &&& 31)) 80 (by decide)) (va_cwS 2 hts gL_act_L_below rfl rfl rfl pL_below ⟨Nat.le_of_ble_eq_true rfl, Nat.le_of_ble_eq_true rfl⟩) hK hP hD hS hA hST (Jf_nil _).1 rfl hl.1 rfl (Nat.le_of_ble_eq_true rfl) dL_act_140 ⟨Nat.le_of_ble_eq_true rfl, Nat.le_of_ble_eq_true rfl⟩ rfl (fun H locs hP hD hS => ?_)
    obtain ⟨r9, hr9, er9⟩ := bel_n (u >>> (4 &&& 31)) 80 (by decide) (by decide)
    rw [show (bel (u >>> (4 &&& 31)) 80 : Int32) = nI r9 from er9]
    refine lv_iadd hx hb dL_act_143 ?_
    obtain ⟨m9, hm1, hm3, em⟩ : ∃ m9, 1 ≤ m9 ∧ m9 ≤ 300 ∧ 1 + nI r9 = nI m9 := ⟨1 + r9, by omega, by omega, nI_add 1 r9⟩
    rw [em]
    refine lv_istore (lv' := [(7, .int (nI m9)), (6, .int (nI w)), (4, .int tv), (3, .int cv), (2, .int u), (1, .ref (S 0)), (0, .ref x)]) hx hb dL_act_144 hl (by decide) rfl (fun ls hl => ?_)
    refine lv_aload_n hx hb dL_act_146 rfl (lv_at hl 5 rfl) ?_
    refine w_getM hx hb hts iL_act_X4 hown hK hP (List.mem_append_right _ (sm_b 0 rfl)) rfl 1 (by decide) fL_act_24 rfl rfl (v := .ref (S 1)) dL_act_147 ?_
    refine lv_iload hx hb dL_act_150 (lv_at hl 1 rfl) ?_
    refine lv_iload hx hb dL_act_152 (lv_at hl 1 rfl) ?_
    refine lv_if_ne (tgt := 163) hx hb dL_act_154 (by decide) (fun c_154 => ?_) (fun c_154 => ?_)
    ·
      have hlim : limF w = 300 := li_0 hw c_154
      refine lv_sipush (v := 300) hx hb dL_act_163 (by decide) ?_
      refine lv_aload_n hx hb dL_act_166 rfl (lv_at hl 5 rfl) ?_
      refine w_getM hx hb hts iL_act_X4 hown hK hP (List.mem_append_right _ (sm_b 0 rfl)) rfl 1 (by decide) fL_act_24 rfl rfl (v := .ref (S 1)) dL_act_167 ?_
      refine lv_iload hx hb dL_act_170 (lv_at hl 1 rfl) ?_
      refine w_ildM hx hb hK hP (List.mem_append_right _ (sm_b 1 rfl)) rfl w rfl (by omega) (by decide) (v := f (w + 1)) (stk_at (by omega)) dL_act_172 ?_
      refine lv_iload hx hb dL_act_173 (lv_at hl 0 rfl) ?_
      refine lv_iadd hx hb dL_act_175 ?_
      refine w_mmin hx hb (hml.trans hl.1.symm) hown (hts _ mlL_act_28) (hts _ msL_act_min) (hts _ miL_act) (hts _ mcL_act_min) (Nat.le_of_ble_eq_true rfl) (Nat.le_of_ble_eq_true rfl) (Nat.le_of_ble_eq_true rfl) (Nat.le_of_ble_eq_true rfl) dL_act_176 ?_
      refine w_istJ (ws' := YW cI cC cT x A b0 nc nt f g ++ (SM cI cL S C T nc nt (upd f (w + 1) (imn 300 ((f (w + 1)) + (nI m9)))) g)) hx hb hK hP hD hS w (Jf_r _ (J_store w (by omega) (imn 300 ((f (w + 1)) + (nI m9))))) rfl rfl (by omega) (by decide) dL_act_179 (fun H locs hP hD hS => ?_)
      refine lv_aload_n hx hb dL_act_180 rfl (lv_at hl 6 rfl) ?_
      refine lv_iload hx hb dL_act_181 (lv_at hl 1 rfl) ?_
      refine lv_iload hx hb dL_act_183 (lv_at hl 0 rfl) ?_
      refine c1_V0 (xe_no (k_bring hw hm1 hm3)) (As := [.int (nI w), .int (nI m9)]) (rest := []) (ws' := YW cI cC cT x A b0 nc nt (bringF f (nI w).toNatClampNeg (nI m9)) g ++ (SM cI cL S C T nc nt (upd f (w + 1) (imn 300 ((f (w + 1)) + (nI m9)))) g)) ⟨hx, hb, hml, hown, hts⟩ (mX3_bring l D cI cC cT cL hl0 x b0 A nc nt f g (nI w) (nI m9) ) (cwV 2 hts gL_act_X3_bring rfl rfl rfl pX3_bring ⟨Nat.le_of_ble_eq_true rfl, Nat.le_of_ble_eq_true rfl⟩) hK hP hD hS hA hST ((Jf_l _ (Jf_all _ _ yw_fst))).1 ((Jf_l _ (Jf_all _ _ yw_fst))).1 0 rfl rfl rfl rfl hl.1 rfl (Nat.le_of_ble_eq_true rfl) dL_act_185 ⟨Nat.le_of_ble_eq_true rfl, Nat.le_of_ble_eq_true rfl⟩ rfl (fun H locs hP hD hS => ?_)
      rw [nI_clamp (n := w) (by omega)] at hP hD ⊢
      refine lv_aload_n hx hb dL_act_188 rfl (lv_at hl 5 rfl) ?_
      refine w_getM hx hb hts iL_act_X4 hown hK hP (List.mem_append_right _ (sm_b 0 rfl)) rfl 1 (by decide) fL_act_24 rfl rfl (v := .ref (S 1)) dL_act_189 ?_
      refine lv_iload hx hb dL_act_192 (lv_at hl 1 rfl) ?_
      refine w_ildM hx hb hK hP (List.mem_append_right _ (sm_b 1 rfl)) rfl w rfl (by omega) (by decide) (v := imn 300 ((f (w + 1)) + (nI m9))) (Eq.trans (stk_at (by omega)) (show (upd f (w + 1) (imn 300 ((f (w + 1)) + (nI m9)))) (w + 1) = imn 300 ((f (w + 1)) + (nI m9)) from (up_s))) dL_act_194 ?_
      refine lv_icmp_ne (tgt := 202) hx hb dL_act_195 (by decide) (fun c_195 => ?_) (fun c_195 => ?_)
      · exact absurd (by rw [br_v hlim, up_s]) c_195
      refine lv_iconst (v := 1) hx hb dL_act_198 (by decide) ?_
      refine lv_goto (tgt := 203) hx hb dL_act_199 (by decide) ?_
      have eT : (upd f (w + 1) (imn 300 (f (w + 1) + nI m9))) = bringF f w (nI m9) := (br_v hlim).symm
      have hP := P_eq (congrArg (fun F9 => YW cI cC cT x A b0 nc nt (bringF f w (nI m9)) g ++ (SM cI cL S C T nc nt F9 g)) eT) hP
      have hD := D_eq (congrArg (fun F9 => YW cI cC cT x A b0 nc nt (bringF f w (nI m9)) g ++ (SM cI cL S C T nc nt F9 g)) eT) hD
      exact eX_z hx hb hr hlocks rfl (⟨rfl, S, C, T, nc, nt, _, g, rfl, g_bring w m9 hw hm1 hm3 G, rfl⟩) hP hD hS dL_act_203 (by decide) (by decide)
    ·
      have hlim : limF w = 900 := li_1 hw c_154
      refine lv_sipush (v := 900) hx hb dL_act_157 (by decide) ?_
      refine lv_goto (tgt := 166) hx hb dL_act_160 (by decide) ?_
      refine lv_aload_n hx hb dL_act_166 rfl (lv_at hl 5 rfl) ?_
      refine w_getM hx hb hts iL_act_X4 hown hK hP (List.mem_append_right _ (sm_b 0 rfl)) rfl 1 (by decide) fL_act_24 rfl rfl (v := .ref (S 1)) dL_act_167 ?_
      refine lv_iload hx hb dL_act_170 (lv_at hl 1 rfl) ?_
      refine w_ildM hx hb hK hP (List.mem_append_right _ (sm_b 1 rfl)) rfl w rfl (by omega) (by decide) (v := f (w + 1)) (stk_at (by omega)) dL_act_172 ?_
      refine lv_iload hx hb dL_act_173 (lv_at hl 0 rfl) ?_
      refine lv_iadd hx hb dL_act_175 ?_
      refine w_mmin hx hb (hml.trans hl.1.symm) hown (hts _ mlL_act_28) (hts _ msL_act_min) (hts _ miL_act) (hts _ mcL_act_min) (Nat.le_of_ble_eq_true rfl) (Nat.le_of_ble_eq_true rfl) (Nat.le_of_ble_eq_true rfl) (Nat.le_of_ble_eq_true rfl) dL_act_176 ?_
      refine w_istJ (ws' := YW cI cC cT x A b0 nc nt f g ++ (SM cI cL S C T nc nt (upd f (w + 1) (imn 900 ((f (w + 1)) + (nI m9)))) g)) hx hb hK hP hD hS w (Jf_r _ (J_store w (by omega) (imn 900 ((f (w + 1)) + (nI m9))))) rfl rfl (by omega) (by decide) dL_act_179 (fun H locs hP hD hS => ?_)
      refine lv_aload_n hx hb dL_act_180 rfl (lv_at hl 6 rfl) ?_
      refine lv_iload hx hb dL_act_181 (lv_at hl 1 rfl) ?_
      refine lv_iload hx hb dL_act_183 (lv_at hl 0 rfl) ?_
      refine c1_V0 (xe_no (k_bring hw hm1 hm3)) (As := [.int (nI w), .int (nI m9)]) (rest := []) (ws' := YW cI cC cT x A b0 nc nt (bringF f (nI w).toNatClampNeg (nI m9)) g ++ (SM cI cL S C T nc nt (upd f (w + 1) (imn 900 ((f (w + 1)) + (nI m9)))) g)) ⟨hx, hb, hml, hown, hts⟩ (mX3_bring l D cI cC cT cL hl0 x b0 A nc nt f g (nI w) (nI m9) ) (cwV 2 hts gL_act_X3_bring rfl rfl rfl pX3_bring ⟨Nat.le_of_ble_eq_true rfl, Nat.le_of_ble_eq_true rfl⟩) hK hP hD hS hA hST ((Jf_l _ (Jf_all _ _ yw_fst))).1 ((Jf_l _ (Jf_all _ _ yw_fst))).1 0 rfl rfl rfl rfl hl.1 rfl (Nat.le_of_ble_eq_true rfl) dL_act_185 ⟨Nat.le_of_ble_eq_true rfl, Nat.le_of_ble_eq_true rfl⟩ rfl (fun H locs hP hD hS => ?_)
      rw [nI_clamp (n := w) (by omega)] at hP hD ⊢
      refine lv_aload_n hx hb dL_act_188 rfl (lv_at hl 5 rfl) ?_
      refine w_getM hx hb hts iL_act_X4 hown hK hP (List.mem_append_right _ (sm_b 0 rfl)) rfl 1 (by decide) fL_act_24 rfl rfl (v := .ref (S 1)) dL_act_189 ?_
      refine lv_iload hx hb dL_act_192 (lv_at hl 1 rfl) ?_
      refine w_ildM hx hb hK hP (List.mem_append_right _ (sm_b 1 rfl)) rfl w rfl (by omega) (by decide) (v := imn 900 ((f (w + 1)) + (nI m9))) (Eq.trans (stk_at (by omega)) (show (upd f (w + 1) (imn 900 ((f (w + 1)) + (nI m9)))) (w + 1) = imn 900 ((f (w + 1)) + (nI m9)) from (up_s))) dL_act_194 ?_
      refine lv_icmp_ne (tgt := 202) hx hb dL_act_195 (by decide) (fun c_195 => ?_) (fun c_195 => ?_)
      · exact absurd (by rw [br_v hlim, up_s]) c_195
      refine lv_iconst (v := 1) hx hb dL_act_198 (by decide) ?_
      refine lv_goto (tgt := 203) hx hb dL_act_199 (by decide) ?_
      have eT : (upd f (w + 1) (imn 900 (f (w + 1) + nI m9))) = bringF f w (nI m9) := (br_v hlim).symm
      have hP := P_eq (congrArg (fun F9 => YW cI cC cT x A b0 nc nt (bringF f w (nI m9)) g ++ (SM cI cL S C T nc nt F9 g)) eT) hP
      have hD := D_eq (congrArg (fun F9 => YW cI cC cT x A b0 nc nt (bringF f w (nI m9)) g ++ (SM cI cL S C T nc nt F9 g)) eT) hD
      exact eX_z hx hb hr hlocks rfl (⟨rfl, S, C, T, nc, nt, _, g, rfl, g_bring w m9 hw hm1 hm3 G, rfl⟩) hP hD hS dL_act_203 (by decide) (by decide)
  ·
    refine lv_sipush (v := 300) hx hb dL_act_132 (by decide) ?_
    refine lv_goto (tgt := 140) hx hb dL_act_135 (by decide) ?_
    refine c0_S (As := [.int (u >>> (4 &&& 31)), .int 300]) (rest := [.int 1]) (ws' := YW cI cC cT x A b0 nc nt f g ++ (SM cI cL S C T nc nt f g)) ⟨hx, hb, hml, hown, hts⟩ (mL_below l D cI cC cT cL (u >>> (4 &&& 31)) 300 (by decide)) (va_cwS 2 hts gL_act_L_below rfl rfl rfl pL_below ⟨Nat.le_of_ble_eq_true rfl, Nat.le_of_ble_eq_true rfl⟩) hK hP hD hS hA hST (Jf_nil _).1 rfl hl.1 rfl (Nat.le_of_ble_eq_true rfl) dL_act_140 ⟨Nat.le_of_ble_eq_true rfl, Nat.le_of_ble_eq_true rfl⟩ rfl (fun H locs hP hD hS => ?_)
    obtain ⟨r9, hr9, er9⟩ := bel_n (u >>> (4 &&& 31)) 300 (by decide) (by decide)
    rw [show (bel (u >>> (4 &&& 31)) 300 : Int32) = nI r9 from er9]
    refine lv_iadd hx hb dL_act_143 ?_
    obtain ⟨m9, hm1, hm3, em⟩ : ∃ m9, 1 ≤ m9 ∧ m9 ≤ 300 ∧ 1 + nI r9 = nI m9 := ⟨1 + r9, by omega, by omega, nI_add 1 r9⟩
    rw [em]
    refine lv_istore (lv' := [(7, .int (nI m9)), (6, .int (nI w)), (4, .int tv), (3, .int cv), (2, .int u), (1, .ref (S 0)), (0, .ref x)]) hx hb dL_act_144 hl (by decide) rfl (fun ls hl => ?_)
    refine lv_aload_n hx hb dL_act_146 rfl (lv_at hl 5 rfl) ?_
    refine w_getM hx hb hts iL_act_X4 hown hK hP (List.mem_append_right _ (sm_b 0 rfl)) rfl 1 (by decide) fL_act_24 rfl rfl (v := .ref (S 1)) dL_act_147 ?_
    refine lv_iload hx hb dL_act_150 (lv_at hl 1 rfl) ?_
    refine lv_iload hx hb dL_act_152 (lv_at hl 1 rfl) ?_
    refine lv_if_ne (tgt := 163) hx hb dL_act_154 (by decide) (fun c_154 => ?_) (fun c_154 => ?_)
    ·
      have hlim : limF w = 300 := li_0 hw c_154
      refine lv_sipush (v := 300) hx hb dL_act_163 (by decide) ?_
      refine lv_aload_n hx hb dL_act_166 rfl (lv_at hl 5 rfl) ?_
      refine w_getM hx hb hts iL_act_X4 hown hK hP (List.mem_append_right _ (sm_b 0 rfl)) rfl 1 (by decide) fL_act_24 rfl rfl (v := .ref (S 1)) dL_act_167 ?_
      refine lv_iload hx hb dL_act_170 (lv_at hl 1 rfl) ?_
      refine w_ildM hx hb hK hP (List.mem_append_right _ (sm_b 1 rfl)) rfl w rfl (by omega) (by decide) (v := f (w + 1)) (stk_at (by omega)) dL_act_172 ?_
      refine lv_iload hx hb dL_act_173 (lv_at hl 0 rfl) ?_
      refine lv_iadd hx hb dL_act_175 ?_
      refine w_mmin hx hb (hml.trans hl.1.symm) hown (hts _ mlL_act_28) (hts _ msL_act_min) (hts _ miL_act) (hts _ mcL_act_min) (Nat.le_of_ble_eq_true rfl) (Nat.le_of_ble_eq_true rfl) (Nat.le_of_ble_eq_true rfl) (Nat.le_of_ble_eq_true rfl) dL_act_176 ?_
      refine w_istJ (ws' := YW cI cC cT x A b0 nc nt f g ++ (SM cI cL S C T nc nt (upd f (w + 1) (imn 300 ((f (w + 1)) + (nI m9)))) g)) hx hb hK hP hD hS w (Jf_r _ (J_store w (by omega) (imn 300 ((f (w + 1)) + (nI m9))))) rfl rfl (by omega) (by decide) dL_act_179 (fun H locs hP hD hS => ?_)
      refine lv_aload_n hx hb dL_act_180 rfl (lv_at hl 6 rfl) ?_
      refine lv_iload hx hb dL_act_181 (lv_at hl 1 rfl) ?_
      refine lv_iload hx hb dL_act_183 (lv_at hl 0 rfl) ?_
      refine c1_V0 (xe_no (k_bring hw hm1 hm3)) (As := [.int (nI w), .int (nI m9)]) (rest := []) (ws' := YW cI cC cT x A b0 nc nt (bringF f (nI w).toNatClampNeg (nI m9)) g ++ (SM cI cL S C T nc nt (upd f (w + 1) (imn 300 ((f (w + 1)) + (nI m9)))) g)) ⟨hx, hb, hml, hown, hts⟩ (mX3_bring l D cI cC cT cL hl0 x b0 A nc nt f g (nI w) (nI m9) ) (cwV 2 hts gL_act_X3_bring rfl rfl rfl pX3_bring ⟨Nat.le_of_ble_eq_true rfl, Nat.le_of_ble_eq_true rfl⟩) hK hP hD hS hA hST ((Jf_l _ (Jf_all _ _ yw_fst))).1 ((Jf_l _ (Jf_all _ _ yw_fst))).1 0 rfl rfl rfl rfl hl.1 rfl (Nat.le_of_ble_eq_true rfl) dL_act_185 ⟨Nat.le_of_ble_eq_true rfl, Nat.le_of_ble_eq_true rfl⟩ rfl (fun H locs hP hD hS => ?_)
      rw [nI_clamp (n := w) (by omega)] at hP hD ⊢
      refine lv_aload_n hx hb dL_act_188 rfl (lv_at hl 5 rfl) ?_
      refine w_getM hx hb hts iL_act_X4 hown hK hP (List.mem_append_right _ (sm_b 0 rfl)) rfl 1 (by decide) fL_act_24 rfl rfl (v := .ref (S 1)) dL_act_189 ?_
      refine lv_iload hx hb dL_act_192 (lv_at hl 1 rfl) ?_
      refine w_ildM hx hb hK hP (List.mem_append_right _ (sm_b 1 rfl)) rfl w rfl (by omega) (by decide) (v := imn 300 ((f (w + 1)) + (nI m9))) (Eq.trans (stk_at (by omega)) (show (upd f (w + 1) (imn 300 ((f (w + 1)) + (nI m9)))) (w + 1) = imn 300 ((f (w + 1)) + (nI m9)) from (up_s))) dL_act_194 ?_
      refine lv_icmp_ne (tgt := 202) hx hb dL_act_195 (by decide) (fun c_195 => ?_) (fun c_195 => ?_)
      · exact absurd (by rw [br_v hlim, up_s]) c_195
      refine lv_iconst (v := 1) hx hb dL_act_198 (by decide) ?_
      refine lv_goto (tgt := 203) hx hb dL_act_199 (by decide) ?_
      have eT : (upd f (w + 1) (imn 300 (f (w + 1) + nI m9))) = bringF f w (nI m9) := (br_v hlim).symm
      have hP := P_eq (congrArg (fun F9 => YW cI cC cT x A b0 nc nt (bringF f w (nI m9)) g ++ (SM cI cL S C T nc nt F9 g)) eT) hP
      have hD := D_eq (congrArg (fun F9 => YW cI cC cT x A b0 nc nt (bringF f w (nI m9)) g ++ (SM cI cL S C T nc nt F9 g)) eT) hD
      exact eX_z hx hb hr hlocks rfl (⟨rfl, S, C, T, nc, nt, _, g, rfl, g_bring w m9 hw hm1 hm3 G, rfl⟩) hP hD hS dL_act_203 (by decide) (by decide)
    ·
      have hlim : limF w = 900 := li_1 hw c_154
      refine lv_sipush (v := 900) hx hb dL_act_157 (by decide) ?_
      refine lv_goto (tgt := 166) hx hb dL_act_160 (by decide) ?_
      refine lv_aload_n hx hb dL_act_166 rfl (lv_at hl 5 rfl) ?_
      refine w_getM hx hb hts iL_act_X4 hown hK hP (List.mem_append_right _ (sm_b 0 rfl)) rfl 1 (by decide) fL_act_24 rfl rfl (v := .ref (S 1)) dL_act_167 ?_
      refine lv_iload hx hb dL_act_170 (lv_at hl 1 rfl) ?_
      refine w_ildM hx hb hK hP (List.mem_append_right _ (sm_b 1 rfl)) rfl w rfl (by omega) (by decide) (v := f (w + 1)) (stk_at (by omega)) dL_act_172 ?_
      refine lv_iload hx hb dL_act_173 (lv_at hl 0 rfl) ?_
      refine lv_iadd hx hb dL_act_175 ?_
      refine w_mmin hx hb (hml.trans hl.1.symm) hown (hts _ mlL_act_28) (hts _ msL_act_min) (hts _ miL_act) (hts _ mcL_act_min) (Nat.le_of_ble_eq_true rfl) (Nat.le_of_ble_eq_true rfl) (Nat.le_of_ble_eq_true rfl) (Nat.le_of_ble_eq_true rfl) dL_act_176 ?_
      refine w_istJ (ws' := YW cI cC cT x A b0 nc nt f g ++ (SM cI cL S C T nc nt (upd f (w + 1) (imn 900 ((f (w + 1)) + (nI m9)))) g)) hx hb hK hP hD hS w (Jf_r _ (J_store w (by omega) (imn 900 ((f (w + 1)) + (nI m9))))) rfl rfl (by omega) (by decide) dL_act_179 (fun H locs hP hD hS => ?_)
      refine lv_aload_n hx hb dL_act_180 rfl (lv_at hl 6 rfl) ?_
      refine lv_iload hx hb dL_act_181 (lv_at hl 1 rfl) ?_
      refine lv_iload hx hb dL_act_183 (lv_at hl 0 rfl) ?_
      refine c1_V0 (xe_no (k_bring hw hm1 hm3)) (As := [.int (nI w), .int (nI m9)]) (rest := []) (ws' := YW cI cC cT x A b0 nc nt (bringF f (nI w).toNatClampNeg (nI m9)) g ++ (SM cI cL S C T nc nt (upd f (w + 1) (imn 900 ((f (w + 1)) + (nI m9)))) g)) ⟨hx, hb, hml, hown, hts⟩ (mX3_bring l D cI cC cT cL hl0 x b0 A nc nt f g (nI w) (nI m9) ) (cwV 2 hts gL_act_X3_bring rfl rfl rfl pX3_bring ⟨Nat.le_of_ble_eq_true rfl, Nat.le_of_ble_eq_true rfl⟩) hK hP hD hS hA hST ((Jf_l _ (Jf_all _ _ yw_fst))).1 ((Jf_l _ (Jf_all _ _ yw_fst))).1 0 rfl rfl rfl rfl hl.1 rfl (Nat.le_of_ble_eq_true rfl) dL_act_185 ⟨Nat.le_of_ble_eq_true rfl, Nat.le_of_ble_eq_true rfl⟩ rfl (fun H locs hP hD hS => ?_)
      rw [nI_clamp (n := w) (by omega)] at hP hD ⊢
      refine lv_aload_n hx hb dL_act_188 rfl (lv_at hl 5 rfl) ?_
      refine w_getM hx hb hts iL_act_X4 hown hK hP (List.mem_append_right _ (sm_b 0 rfl)) rfl 1 (by decide) fL_act_24 rfl rfl (v := .ref (S 1)) dL_act_189 ?_
      refine lv_iload hx hb dL_act_192 (lv_at hl 1 rfl) ?_
      refine w_ildM hx hb hK hP (List.mem_append_right _ (sm_b 1 rfl)) rfl w rfl (by omega) (by decide) (v := imn 900 ((f (w + 1)) + (nI m9))) (Eq.trans (stk_at (by omega)) (show (upd f (w + 1) (imn 900 ((f (w + 1)) + (nI m9)))) (w + 1) = imn 900 ((f (w + 1)) + (nI m9)) from (up_s))) dL_act_194 ?_
      refine lv_icmp_ne (tgt := 202) hx hb dL_act_195 (by decide) (fun c_195 => ?_) (fun c_195 => ?_)
      · exact absurd (by rw [br_v hlim, up_s]) c_195
      refine lv_iconst (v := 1) hx hb dL_act_198 (by decide) ?_
      refine lv_goto (tgt := 203) hx hb dL_act_199 (by decide) ?_
      have eT : (upd f (w + 1) (imn 900 (f (w + 1) + nI m9))) = bringF f w (nI m9) := (br_v hlim).symm
      have hP := P_eq (congrArg (fun F9 => YW cI cC cT x A b0 nc nt (bringF f w (nI m9)) g ++ (SM cI cL S C T nc nt F9 g)) eT) hP
      have hD := D_eq (congrArg (fun F9 => YW cI cC cT x A b0 nc nt (bringF f w (nI m9)) g ++ (SM cI cL S C T nc nt F9 g)) eT) hD
      exact eX_z hx hb hr hlocks rfl (⟨rfl, S, C, T, nc, nt, _, g, rfl, g_bring w m9 hw hm1 hm3 G, rfl⟩) hP hD hS dL_act_203 (by decide) (by decide)

set_option maxHeartbeats 4000000 in
set_option maxRecDepth 100000 in
theorem act_heat {p : Program} {l : Launch} {e : Env} {s : State} {m : MethodId} {args : Array Value} {below : List Frame} {meth : Method} {c : Code} {A0 : Nat → Prop} {D : va_G} {cI cC cT cL : ClassId} {x b0 : Nat} {A S C T : Nat → Nat} {nc nt h : Nat} {f g : Nat → Int32} {u cv tv : Int32} {H : Heap} {locs : List Loc} {ls : Array Slot} (EA : AE p l s m meth c args A0 D cI cC cT cL) (G : GS2 nc nt f g h) (hcv : (nc = 0 ∧ cv = -1) ∨ ∃ i, i < nc ∧ cv = nI i) (htv : (nt = 0 ∧ tv = -1) ∨ ∃ i, i < nt ∧ tv = nI i) (hP : va_P D vwCl (YW cI cC cT x A b0 nc nt f g ++ (SM cI cL S C T nc nt f g)) H) (hD : va_D A0 (YW cI cC cT x A b0 nc nt f g ++ (SM cI cL S C T nc nt f g))) (hS : va_S A0 s.heap H locs) (hl : lv_has ls 10 [(4, .int tv), (3, .int cv), (2, .int u), (1, .ref (S 0)), (0, .ref x)]) : W p l e ({ frames := 8, cells := 20, slots := 200, locals := 150 } : Room) s m args below meth c H locs 0 0 (QX below D (actB cI cC cT cL x A b0 S h) A0 args s 20 200) (F0 m 204 ls []) := by
  obtain ⟨hx, hb, hml, hr, hown, hts, hlocks, hK, hA, hST, htab, hl0⟩ := id EA
  obtain ⟨⟨hnc, hnt, hI, hg, h0⟩, hz, hxc, hxt⟩ := id G
  have hAA : va_AOA .int s := hST.2.2.2.2.2.2.2.2.2.1
  refine lv_iload_n hx hb dL_act_204 rfl (lv_at hl 2 rfl) ?_
  refine lv_iconst (v := 4) hx hb dL_act_205 (by decide) ?_
  refine lv_ishr hx hb dL_act_206 ?_
  refine lv_bipush (v := 7) hx hb dL_act_207 (by decide) ?_
  refine c0_S (As := [.int (u >>> (4 &&& 31)), .int 7]) (rest := []) (ws' := YW cI cC cT x A b0 nc nt f g ++ (SM cI cL S C T nc nt f g)) ⟨hx, hb, hml, hown, hts⟩ (mL_below l D cI cC cT cL (u >>> (4 &&& 31)) 7 (by decide)) (va_cwS 2 hts gL_act_L_below rfl rfl rfl pL_below ⟨Nat.le_of_ble_eq_true rfl, Nat.le_of_ble_eq_true rfl⟩) hK hP hD hS hA hST (Jf_nil _).1 rfl hl.1 rfl (Nat.le_of_ble_eq_true rfl) dL_act_209 ⟨Nat.le_of_ble_eq_true rfl, Nat.le_of_ble_eq_true rfl⟩ rfl (fun H locs hP hD hS => ?_)
  obtain ⟨j9, hj9, ej9⟩ := bel_n (u >>> (4 &&& 31)) 7 (by decide) (by decide)
  rw [show (bel (u >>> (4 &&& 31)) 7 : Int32) = nI j9 from ej9]
  refine lv_istore (lv' := [(6, .int (nI j9)), (4, .int tv), (3, .int cv), (2, .int u), (1, .ref (S 0)), (0, .ref x)]) hx hb dL_act_212 hl (by decide) rfl (fun ls hl => ?_)
  refine lv_aload_n hx hb dL_act_214 rfl (lv_at hl 4 rfl) ?_
  refine w_getM hx hb hts iL_act_X4 hown hK hP (List.mem_append_right _ (sm_b 0 rfl)) rfl 4 (by decide) fL_act_38 rfl rfl (v := .ref (S 2)) dL_act_215 ?_
  refine lv_iload hx hb dL_act_218 (lv_at hl 0 rfl) ?_
  refine w_ildM hx hb hK hP (List.mem_append_right _ (sm_b 2 rfl)) rfl j9 rfl (by omega) (by decide) (v := g j9) rfl dL_act_220 ?_
  refine lv_istore (lv' := [(7, .int (g j9)), (6, .int (nI j9)), (4, .int tv), (3, .int cv), (2, .int u), (1, .ref (S 0)), (0, .ref x)]) hx hb dL_act_221 hl (by decide) rfl (fun ls hl => ?_)
  refine lv_aload_n hx hb dL_act_223 rfl (lv_at hl 5 rfl) ?_
  refine w_getM hx hb hts iL_act_X4 hown hK hP (List.mem_append_right _ (sm_b 0 rfl)) rfl 4 (by decide) fL_act_38 rfl rfl (v := .ref (S 2)) dL_act_224 ?_
  refine lv_iload hx hb dL_act_227 (lv_at hl 1 rfl) ?_
  refine lv_iload_n hx hb dL_act_229 rfl (lv_at hl 4 rfl) ?_
  refine lv_iconst (v := 5) hx hb dL_act_230 (by decide) ?_
  refine lv_ishr hx hb dL_act_231 ?_
  refine lv_bipush (v := 41) hx hb dL_act_232 (by decide) ?_
  refine c0_S (As := [.int (u >>> (5 &&& 31)), .int 41]) (rest := [.int (nI j9), .ref (S 2)]) (ws' := YW cI cC cT x A b0 nc nt f g ++ (SM cI cL S C T nc nt f g)) ⟨hx, hb, hml, hown, hts⟩ (mL_below l D cI cC cT cL (u >>> (5 &&& 31)) 41 (by decide)) (va_cwS 2 hts gL_act_L_below rfl rfl rfl pL_below ⟨Nat.le_of_ble_eq_true rfl, Nat.le_of_ble_eq_true rfl⟩) hK hP hD hS hA hST (Jf_nil _).1 rfl hl.1 rfl (Nat.le_of_ble_eq_true rfl) dL_act_234 ⟨Nat.le_of_ble_eq_true rfl, Nat.le_of_ble_eq_true rfl⟩ rfl (fun H locs hP hD hS => ?_)
  obtain ⟨v9, hv9, ev9⟩ := bel_n (u >>> (5 &&& 31)) 41 (by decide) (by decide)
  rw [show (bel (u >>> (5 &&& 31)) 41 : Int32) = nI v9 from ev9]
  refine w_istJ (ws' := YW cI cC cT x A b0 nc nt f g ++ (SM cI cL S C T nc nt f (upd g j9 (nI v9)))) hx hb hK hP hD hS j9 (Jf_r _ (J_heat j9 (nI v9))) rfl rfl (by omega) (by decide) dL_act_237 (fun H locs hP hD hS => ?_)
  refine lv_aload_n hx hb dL_act_238 rfl (lv_at hl 6 rfl) ?_
  refine lv_iload hx hb dL_act_239 (lv_at hl 1 rfl) ?_
  refine lv_aload_n hx hb dL_act_241 rfl (lv_at hl 5 rfl) ?_
  refine w_getM hx hb hts iL_act_X4 hown hK hP (List.mem_append_right _ (sm_b 0 rfl)) rfl 4 (by decide) fL_act_38 rfl rfl (v := .ref (S 2)) dL_act_242 ?_
  refine lv_iload hx hb dL_act_245 (lv_at hl 1 rfl) ?_
  refine w_ildM hx hb hK hP (List.mem_append_right _ (sm_b 2 rfl)) rfl j9 rfl (by omega) (by decide) (v := nI v9) up_s dL_act_247 ?_
  refine c1_V0 (xe_no (k_heat hj9 (by omega))) (As := [.int (nI j9), .int (nI v9)]) (rest := []) (ws' := YW cI cC cT x A b0 nc nt f (upd g (nI j9).toNatClampNeg (nI v9)) ++ (SM cI cL S C T nc nt f (upd g j9 (nI v9)))) ⟨hx, hb, hml, hown, hts⟩ (mX3_setHeat l D cI cC cT cL hl0 x b0 A nc nt f g (nI j9) (nI v9) ) (cwV 2 hts gL_act_X3_setHeat rfl rfl rfl pX3_setHeat ⟨Nat.le_of_ble_eq_true rfl, Nat.le_of_ble_eq_true rfl⟩) hK hP hD hS hA hST ((Jf_l _ (Jf_all _ _ yw_fst))).1 ((Jf_l _ (Jf_all _ _ yw_fst))).1 0 rfl rfl rfl rfl hl.1 rfl (Nat.le_of_ble_eq_true rfl) dL_act_248 ⟨Nat.le_of_ble_eq_true rfl, Nat.le_of_ble_eq_true rfl⟩ rfl (fun H locs hP hD hS => ?_)
  rw [nI_clamp (n := j9) (by omega)] at hP hD ⊢
  refine lv_iload hx hb dL_act_251 (lv_at hl 0 rfl) ?_
  refine lv_icmp_ne (tgt := 260) hx hb dL_act_253 (by decide) (fun c_253 => ?_) (fun c_253 => ?_)
  · exact absurd rfl c_253
  refine lv_iconst (v := 1) hx hb dL_act_256 (by decide) ?_
  refine lv_goto (tgt := 261) hx hb dL_act_257 (by decide) ?_
  exact eX_z hx hb hr hlocks rfl (⟨rfl, S, C, T, nc, nt, f, _, rfl, g_heat j9 v9 (by omega) G, rfl⟩) hP hD hS dL_act_261 (by decide) (by decide)

set_option maxHeartbeats 4000000 in
set_option maxRecDepth 100000 in
theorem act_churn {p : Program} {l : Launch} {e : Env} {s : State} {m : MethodId} {args : Array Value} {below : List Frame} {meth : Method} {c : Code} {A0 : Nat → Prop} {D : va_G} {cI cC cT cL : ClassId} {x b0 : Nat} {A S C T : Nat → Nat} {nc nt h : Nat} {f g : Nat → Int32} {u cv tv : Int32} {H : Heap} {locs : List Loc} {ls : Array Slot} (EA : AE p l s m meth c args A0 D cI cC cT cL) (G : GS2 nc nt f g h) (hcv : (nc = 0 ∧ cv = -1) ∨ ∃ i, i < nc ∧ cv = nI i) (htv : (nt = 0 ∧ tv = -1) ∨ ∃ i, i < nt ∧ tv = nI i) (hP : va_P D vwCl (YW cI cC cT x A b0 nc nt f g ++ (SM cI cL S C T nc nt f g)) H) (hD : va_D A0 (YW cI cC cT x A b0 nc nt f g ++ (SM cI cL S C T nc nt f g))) (hS : va_S A0 s.heap H locs) (hl : lv_has ls 10 [(4, .int tv), (3, .int cv), (2, .int u), (1, .ref (S 0)), (0, .ref x)]) : W p l e ({ frames := 8, cells := 20, slots := 200, locals := 150 } : Room) s m args below meth c H locs 0 0 (QX below D (actB cI cC cT cL x A b0 S h) A0 args s 20 200) (F0 m 262 ls []) := by
  obtain ⟨hx, hb, hml, hr, hown, hts, hlocks, hK, hA, hST, htab, hl0⟩ := id EA
  obtain ⟨⟨hnc, hnt, hI, hg, h0⟩, hz, hxc, hxt⟩ := id G
  have hAA : va_AOA .int s := hST.2.2.2.2.2.2.2.2.2.1
  refine lv_aload_n hx hb dL_act_262 rfl (lv_at hl 3 rfl) ?_
  refine w_getM hx hb hts iL_act_X4 hown hK hP (List.mem_append_right _ (sm_b 0 rfl)) rfl 5 (by decide) fL_act_9 rfl rfl (v := .ref (S 3)) dL_act_263 ?_
  refine w_alenA hx hb hK hP (List.mem_append_right _ (sm_b 3 rfl)) rfl dL_act_266 ?_
  refine lv_iconst (v := 4) hx hb dL_act_267 (by decide) ?_
  refine lv_icmp_ne (tgt := 273) hx hb dL_act_268 (by decide) (fun c_268 => ?_) (fun c_268 => ?_)
  ·
    have hc4 : nc < 4 := Nat.lt_of_le_of_ne hnc (fun q => c_268 (by rw [q]; rfl))
    refine lv_aload_n hx hb dL_act_273 rfl (lv_at hl 3 rfl) ?_
    refine lv_aload_n hx hb dL_act_274 rfl (lv_at hl 3 rfl) ?_
    refine w_getM hx hb hts iL_act_X4 hown hK hP (List.mem_append_right _ (sm_b 0 rfl)) rfl 5 (by decide) fL_act_9 rfl rfl (v := .ref (S 3)) dL_act_275 ?_
    refine cX_S (As := [.ref (S 3)]) (rest := [.ref (S 0)]) (L := YW cI cC cT x A b0 nc nt f g ++ ((S 0, .inr (4, [.int (f 0), .ref (S 1), .int (f 5), .int (f 6), .ref (S 2), .ref (S 3), .ref (S 4)])) :: (S 1, .inl (cI, 4, .inl (stk (f 1) (f 2) (f 3) (f 4)))) :: (S 2, .inl (cI, 7, .inl g)) :: (S 4, .inl (cL, nt, .inr (.inr (.inr (.inr (fun i => some (T i))))))) :: (RT cI T f nt))) ⟨hx, hb, hml, hown, hts⟩ (mX4_more l D cI cC cT cL (S 3) nc C (RC cI C f nc) (by omega) (fun i hi => ⟨3, _, List.mem_of_getElem? (rc_get hi)⟩)) (fun _ => px_blind0) (va_cwS 1 hts gL_act_X4_more rfl rfl rfl pX4_more ⟨Nat.le_of_ble_eq_true rfl, Nat.le_of_ble_eq_true rfl⟩) hK (pm5 _ _ _ _ _ _ _ _) hP hD hS hA hST (fun _ _ _ => trivial) rfl hl.1 rfl (Nat.le_of_ble_eq_true rfl) dL_act_278 ⟨Nat.le_of_ble_eq_true rfl, Nat.le_of_ble_eq_true rfl⟩ (fun o9 w9 hB H locs hP hD hS => ?_)
    obtain ⟨q9, r9, rfl, rfl⟩ := hB
    refine W.eq (g2 := F0 m 281 ls [.ref q9, .ref (S 0)]) rfl ?_
    have hP : va_P D vwCl (([(q9, .inl (cL, (nc + 1), .inr (.inr (.inr (.inr (fun i => some (if i < nc then C i else r9))))))), (r9, .inl (cI, 3, .inl (fun _ => 0))), (S 3, .inl (cL, nc, .inr (.inr (.inr (.inr (fun i => some (C i)))))))] : va_W) ++ (YW cI cC cT x A b0 nc nt f g ++ ((SC cI cL S C T (S 3) nc nt f g)))) H := (P_pm (pm7 _ _ _ _ _ _ _ _ _ _) hP)
    have hD : va_D A0 (([(q9, .inl (cL, (nc + 1), .inr (.inr (.inr (.inr (fun i => some (if i < nc then C i else r9))))))), (r9, .inl (cI, 3, .inl (fun _ => 0))), (S 3, .inl (cL, nc, .inr (.inr (.inr (.inr (fun i => some (C i)))))))] : va_W) ++ (YW cI cC cT x A b0 nc nt f g ++ ((SC cI cL S C T (S 3) nc nt f g)))) := (D_pm (pm7 _ _ _ _ _ _ _ _ _ _) hD)
    refine w_putJ (C := RX4) (ws' := ([(q9, .inl (cL, (nc + 1), .inr (.inr (.inr (.inr (fun i => some (if i < nc then C i else r9))))))), (r9, .inl (cI, 3, .inl (fun _ => 0))), (S 3, .inl (cL, nc, .inr (.inr (.inr (.inr (fun i => some (C i)))))))] : va_W) ++ (YW cI cC cT x A b0 nc nt f g ++ ((SC cI cL S C T q9 nc nt f g)))) hx hb hts iL_act_X4 tyX4_ok nmX4 hown hK hP hD hS (Jf_r _ (Jf_r _ (Jf_set 0 rfl rfl))) rfl 5 (by decide) fL_act_9 rfl rfl rfl rfl (Nat.le_of_ble_eq_true rfl) rfl dL_act_281 (fun H locs hP hD hS => ?_)
    have pm9 := mo_c (cI := cI) (cL := cL) (S := S) (C := C) (T := T) (nc := nc) (nt := nt) (q := q9) (r := r9) (g := g) (YW cI cC cT x A b0 nc nt f g) (hz.1 nc (Nat.le_refl _) hc4)
    have hP : va_P D vwCl (YW cI cC cT x A b0 nc nt f g ++ (SM cI cL (fun k => if k = 3 then q9 else S k) (fun i => if i < nc then C i else r9) T (nc + 1) nt f g)) H := P_cut pm9 hP
    have hD : va_D A0 (YW cI cC cT x A b0 nc nt f g ++ (SM cI cL (fun k => if k = 3 then q9 else S k) (fun i => if i < nc then C i else r9) T (nc + 1) nt f g)) := D_cut pm9 hD
    refine lv_aload_n hx hb dL_act_284 rfl (lv_at hl 4 rfl) ?_
    refine c1_V0 (xe_no (k_churn hc4)) (As := []) (rest := []) (ws' := YW cI cC cT x A b0 (nc + 1) nt f g ++ (SM cI cL (fun k => if k = 3 then q9 else S k) (fun i => if i < nc then C i else r9) T (nc + 1) nt f g)) ⟨hx, hb, hml, hown, hts⟩ (mX3_churn l D cI cC cT cL hl0 x b0 A nc nt f g  ) (cwV 0 hts gL_act_X3_churn rfl rfl rfl pX3_churn ⟨Nat.le_of_ble_eq_true rfl, Nat.le_of_ble_eq_true rfl⟩) hK hP hD hS hA hST ((Jf_l _ (Jf_all _ _ yw_fst))).1 ((Jf_l _ (Jf_all _ _ yw_fst))).1 0 rfl rfl rfl rfl hl.1 rfl (Nat.le_of_ble_eq_true rfl) dL_act_285 ⟨Nat.le_of_ble_eq_true rfl, Nat.le_of_ble_eq_true rfl⟩ rfl (fun H locs hP hD hS => ?_)
    refine lv_aload_n hx hb dL_act_288 rfl (lv_at hl 3 rfl) ?_
    refine w_getM hx hb hts iL_act_X4 hown hK hP (List.mem_append_right _ (sm_b 0 rfl)) rfl 5 (by decide) fL_act_9 rfl rfl (v := .ref ((fun k => if k = 3 then q9 else S k) 3)) dL_act_289 ?_
    refine w_alenA hx hb hK hP (List.mem_append_right _ (sm_b 3 rfl)) rfl dL_act_292 ?_
    refine lv_iconst (v := 1) hx hb dL_act_293 (by decide) ?_
    refine lv_isub hx hb dL_act_294 ?_
    refine lv_icmp_ne (tgt := 302) hx hb dL_act_295 (by decide) (fun c_295 => ?_) (fun c_295 => ?_)
    · exact absurd (nI_pred nc).symm c_295
    refine lv_iconst (v := 1) hx hb dL_act_298 (by decide) ?_
    refine lv_goto (tgt := 303) hx hb dL_act_299 (by decide) ?_
    exact eX_z hx hb hr hlocks rfl (⟨rfl, (fun k => if k = 3 then q9 else S k), (fun i => if i < nc then C i else r9), T, nc + 1, nt, f, g, rfl, g_churn hc4 G, rfl⟩) hP hD hS dL_act_303 (by decide) (by decide)
  ·
    refine lv_iconst (v := 1) hx hb dL_act_271 (by decide) ?_
    exact eX_z hx hb hr hlocks rfl (⟨rfl, S, C, T, nc, nt, f, g, rfl, G, rfl⟩) hP hD hS dL_act_272 (by decide) (by decide)

set_option maxHeartbeats 4000000 in
set_option maxRecDepth 100000 in
theorem act_tub {p : Program} {l : Launch} {e : Env} {s : State} {m : MethodId} {args : Array Value} {below : List Frame} {meth : Method} {c : Code} {A0 : Nat → Prop} {D : va_G} {cI cC cT cL : ClassId} {x b0 : Nat} {A S C T : Nat → Nat} {nc nt h : Nat} {f g : Nat → Int32} {u cv tv : Int32} {H : Heap} {locs : List Loc} {ls : Array Slot} (EA : AE p l s m meth c args A0 D cI cC cT cL) (G : GS2 nc nt f g h) (hcv : (nc = 0 ∧ cv = -1) ∨ ∃ i, i < nc ∧ cv = nI i) (htv : (nt = 0 ∧ tv = -1) ∨ ∃ i, i < nt ∧ tv = nI i) (hP : va_P D vwCl (YW cI cC cT x A b0 nc nt f g ++ (SM cI cL S C T nc nt f g)) H) (hD : va_D A0 (YW cI cC cT x A b0 nc nt f g ++ (SM cI cL S C T nc nt f g))) (hS : va_S A0 s.heap H locs) (hl : lv_has ls 10 [(4, .int tv), (3, .int cv), (2, .int u), (1, .ref (S 0)), (0, .ref x)]) : W p l e ({ frames := 8, cells := 20, slots := 200, locals := 150 } : Room) s m args below meth c H locs 0 0 (QX below D (actB cI cC cT cL x A b0 S h) A0 args s 20 200) (F0 m 304 ls []) := by
  obtain ⟨hx, hb, hml, hr, hown, hts, hlocks, hK, hA, hST, htab, hl0⟩ := id EA
  obtain ⟨⟨hnc, hnt, hI, hg, h0⟩, hz, hxc, hxt⟩ := id G
  have hAA : va_AOA .int s := hST.2.2.2.2.2.2.2.2.2.1
  refine lv_aload_n hx hb dL_act_304 rfl (lv_at hl 3 rfl) ?_
  refine w_getM hx hb hts iL_act_X4 hown hK hP (List.mem_append_right _ (sm_b 0 rfl)) rfl 6 (by decide) fL_act_21 rfl rfl (v := .ref (S 4)) dL_act_305 ?_
  refine w_alenA hx hb hK hP (List.mem_append_right _ (sm_b 4 rfl)) rfl dL_act_308 ?_
  refine lv_bipush (v := 6) hx hb dL_act_309 (by decide) ?_
  refine lv_icmp_ne (tgt := 316) hx hb dL_act_311 (by decide) (fun c_311 => ?_) (fun c_311 => ?_)
  ·
    have hc4 : nt < 6 := Nat.lt_of_le_of_ne hnt (fun q => c_311 (by rw [q]; rfl))
    refine lv_aload_n hx hb dL_act_316 rfl (lv_at hl 3 rfl) ?_
    refine lv_aload_n hx hb dL_act_317 rfl (lv_at hl 3 rfl) ?_
    refine w_getM hx hb hts iL_act_X4 hown hK hP (List.mem_append_right _ (sm_b 0 rfl)) rfl 6 (by decide) fL_act_21 rfl rfl (v := .ref (S 4)) dL_act_318 ?_
    refine cX_S (As := [.ref (S 4)]) (rest := [.ref (S 0)]) (L := YW cI cC cT x A b0 nc nt f g ++ ((S 0, .inr (4, [.int (f 0), .ref (S 1), .int (f 5), .int (f 6), .ref (S 2), .ref (S 3), .ref (S 4)])) :: (S 1, .inl (cI, 4, .inl (stk (f 1) (f 2) (f 3) (f 4)))) :: (S 2, .inl (cI, 7, .inl g)) :: (S 3, .inl (cL, nc, .inr (.inr (.inr (.inr (fun i => some (C i))))))) :: (RC cI C f nc))) ⟨hx, hb, hml, hown, hts⟩ (mX4_more l D cI cC cT cL (S 4) nt T (RT cI T f nt) (by omega) (fun i hi => ⟨3, _, List.mem_of_getElem? (rt_get hi)⟩)) (fun _ => px_blind0) (va_cwS 1 hts gL_act_X4_more rfl rfl rfl pX4_more ⟨Nat.le_of_ble_eq_true rfl, Nat.le_of_ble_eq_true rfl⟩) hK (pm6 _ _ _ _ _ _ _ _) hP hD hS hA hST (fun _ _ _ => trivial) rfl hl.1 rfl (Nat.le_of_ble_eq_true rfl) dL_act_321 ⟨Nat.le_of_ble_eq_true rfl, Nat.le_of_ble_eq_true rfl⟩ (fun o9 w9 hB H locs hP hD hS => ?_)
    obtain ⟨q9, r9, rfl, rfl⟩ := hB
    refine W.eq (g2 := F0 m 324 ls [.ref q9, .ref (S 0)]) rfl ?_
    have hP : va_P D vwCl (([(q9, .inl (cL, (nt + 1), .inr (.inr (.inr (.inr (fun i => some (if i < nt then T i else r9))))))), (r9, .inl (cI, 3, .inl (fun _ => 0))), (S 4, .inl (cL, nt, .inr (.inr (.inr (.inr (fun i => some (T i)))))))] : va_W) ++ (YW cI cC cT x A b0 nc nt f g ++ ((SU cI cL S C T (S 4) nc nt f g)))) H := (P_pm (pm8 _ _ _ _ _ _ _ _ _ _) hP)
    have hD : va_D A0 (([(q9, .inl (cL, (nt + 1), .inr (.inr (.inr (.inr (fun i => some (if i < nt then T i else r9))))))), (r9, .inl (cI, 3, .inl (fun _ => 0))), (S 4, .inl (cL, nt, .inr (.inr (.inr (.inr (fun i => some (T i)))))))] : va_W) ++ (YW cI cC cT x A b0 nc nt f g ++ ((SU cI cL S C T (S 4) nc nt f g)))) := (D_pm (pm8 _ _ _ _ _ _ _ _ _ _) hD)
    refine w_putJ (C := RX4) (ws' := ([(q9, .inl (cL, (nt + 1), .inr (.inr (.inr (.inr (fun i => some (if i < nt then T i else r9))))))), (r9, .inl (cI, 3, .inl (fun _ => 0))), (S 4, .inl (cL, nt, .inr (.inr (.inr (.inr (fun i => some (T i)))))))] : va_W) ++ (YW cI cC cT x A b0 nc nt f g ++ ((SU cI cL S C T q9 nc nt f g)))) hx hb hts iL_act_X4 tyX4_ok nmX4 hown hK hP hD hS (Jf_r _ (Jf_r _ (Jf_set 0 rfl rfl))) rfl 6 (by decide) fL_act_21 rfl rfl rfl rfl (Nat.le_of_ble_eq_true rfl) rfl dL_act_324 (fun H locs hP hD hS => ?_)
    have pm9 := mo_t (cI := cI) (cL := cL) (S := S) (C := C) (T := T) (nc := nc) (nt := nt) (q := q9) (r := r9) (g := g) (YW cI cC cT x A b0 nc nt f g) (hz.2 nt (Nat.le_refl _) hc4)
    have hP : va_P D vwCl (YW cI cC cT x A b0 nc nt f g ++ (SM cI cL (fun k => if k = 4 then q9 else S k) C (fun i => if i < nt then T i else r9) nc (nt + 1) f g)) H := P_cut pm9 hP
    have hD : va_D A0 (YW cI cC cT x A b0 nc nt f g ++ (SM cI cL (fun k => if k = 4 then q9 else S k) C (fun i => if i < nt then T i else r9) nc (nt + 1) f g)) := D_cut pm9 hD
    refine lv_aload_n hx hb dL_act_327 rfl (lv_at hl 4 rfl) ?_
    refine c1_V0 (xe_no (k_tub hc4)) (As := []) (rest := []) (ws' := YW cI cC cT x A b0 nc (nt + 1) f g ++ (SM cI cL (fun k => if k = 4 then q9 else S k) C (fun i => if i < nt then T i else r9) nc (nt + 1) f g)) ⟨hx, hb, hml, hown, hts⟩ (mX3_tub l D cI cC cT cL hl0 x b0 A nc nt f g  ) (cwV 0 hts gL_act_X3_tub rfl rfl rfl pX3_tub ⟨Nat.le_of_ble_eq_true rfl, Nat.le_of_ble_eq_true rfl⟩) hK hP hD hS hA hST ((Jf_l _ (Jf_all _ _ yw_fst))).1 ((Jf_l _ (Jf_all _ _ yw_fst))).1 0 rfl rfl rfl rfl hl.1 rfl (Nat.le_of_ble_eq_true rfl) dL_act_328 ⟨Nat.le_of_ble_eq_true rfl, Nat.le_of_ble_eq_true rfl⟩ rfl (fun H locs hP hD hS => ?_)
    refine lv_aload_n hx hb dL_act_331 rfl (lv_at hl 3 rfl) ?_
    refine w_getM hx hb hts iL_act_X4 hown hK hP (List.mem_append_right _ (sm_b 0 rfl)) rfl 6 (by decide) fL_act_21 rfl rfl (v := .ref ((fun k => if k = 4 then q9 else S k) 4)) dL_act_332 ?_
    refine w_alenA hx hb hK hP (List.mem_append_right _ (sm_b 4 rfl)) rfl dL_act_335 ?_
    refine lv_iconst (v := 1) hx hb dL_act_336 (by decide) ?_
    refine lv_isub hx hb dL_act_337 ?_
    refine lv_icmp_ne (tgt := 345) hx hb dL_act_338 (by decide) (fun c_338 => ?_) (fun c_338 => ?_)
    · exact absurd (nI_pred nt).symm c_338
    refine lv_iconst (v := 1) hx hb dL_act_341 (by decide) ?_
    refine lv_goto (tgt := 346) hx hb dL_act_342 (by decide) ?_
    exact eX_z hx hb hr hlocks rfl (⟨rfl, (fun k => if k = 4 then q9 else S k), C, (fun i => if i < nt then T i else r9), nc, nt + 1, f, g, rfl, g_tub hc4 G, rfl⟩) hP hD hS dL_act_346 (by decide) (by decide)
  ·
    refine lv_iconst (v := 1) hx hb dL_act_314 (by decide) ?_
    exact eX_z hx hb hr hlocks rfl (⟨rfl, S, C, T, nc, nt, f, g, rfl, G, rfl⟩) hP hD hS dL_act_315 (by decide) (by decide)

set_option maxHeartbeats 4000000 in
set_option maxRecDepth 100000 in
theorem act_pack {p : Program} {l : Launch} {e : Env} {s : State} {m : MethodId} {args : Array Value} {below : List Frame} {meth : Method} {c : Code} {A0 : Nat → Prop} {D : va_G} {cI cC cT cL : ClassId} {x b0 : Nat} {A S C T : Nat → Nat} {nc nt h : Nat} {f g : Nat → Int32} {u cv tv : Int32} {H : Heap} {locs : List Loc} {ls : Array Slot} (EA : AE p l s m meth c args A0 D cI cC cT cL) (G : GS2 nc nt f g h) (hcv : (nc = 0 ∧ cv = -1) ∨ ∃ i, i < nc ∧ cv = nI i) (htv : (nt = 0 ∧ tv = -1) ∨ ∃ i, i < nt ∧ tv = nI i) (hP : va_P D vwCl (YW cI cC cT x A b0 nc nt f g ++ (SM cI cL S C T nc nt f g)) H) (hD : va_D A0 (YW cI cC cT x A b0 nc nt f g ++ (SM cI cL S C T nc nt f g))) (hS : va_S A0 s.heap H locs) (hl : lv_has ls 10 [(4, .int tv), (3, .int cv), (2, .int u), (1, .ref (S 0)), (0, .ref x)]) : W p l e ({ frames := 8, cells := 20, slots := 200, locals := 150 } : Room) s m args below meth c H locs 0 0 (QX below D (actB cI cC cT cL x A b0 S h) A0 args s 20 200) (F0 m 347 ls []) := by
  obtain ⟨hx, hb, hml, hr, hown, hts, hlocks, hK, hA, hST, htab, hl0⟩ := id EA
  obtain ⟨⟨hnc, hnt, hI, hg, h0⟩, hz, hxc, hxt⟩ := id G
  have hAA : va_AOA .int s := hST.2.2.2.2.2.2.2.2.2.1
  refine lv_iload_n hx hb dL_act_347 rfl (lv_at hl 1 rfl) ?_
  refine lv_if_ge (tgt := 353) hx hb dL_act_348 (by decide) (fun c_348 => ?_) (fun c_348 => ?_)
  ·
    obtain ⟨i, hi9, ei⟩ := c_of (by omega) hcv c_348
    subst ei
    refine lv_iload_n hx hb dL_act_353 rfl (lv_at hl 2 rfl) ?_
    refine lv_iconst (v := 5) hx hb dL_act_354 (by decide) ?_
    refine lv_ishr hx hb dL_act_355 ?_
    refine lv_bipush (v := 61) hx hb dL_act_356 (by decide) ?_
    refine c0_S (As := [.int (u >>> (5 &&& 31)), .int 61]) (rest := []) (ws' := YW cI cC cT x A b0 nc nt f g ++ (SM cI cL S C T nc nt f g)) ⟨hx, hb, hml, hown, hts⟩ (mL_below l D cI cC cT cL (u >>> (5 &&& 31)) 61 (by decide)) (va_cwS 2 hts gL_act_L_below rfl rfl rfl pL_below ⟨Nat.le_of_ble_eq_true rfl, Nat.le_of_ble_eq_true rfl⟩) hK hP hD hS hA hST (Jf_nil _).1 rfl hl.1 rfl (Nat.le_of_ble_eq_true rfl) dL_act_358 ⟨Nat.le_of_ble_eq_true rfl, Nat.le_of_ble_eq_true rfl⟩ rfl (fun H locs hP hD hS => ?_)
    obtain ⟨a, ha, ea⟩ := bel_n (u >>> (5 &&& 31)) 61 (by decide) (by decide)
    rw [show (bel (u >>> (5 &&& 31)) 61 : Int32) = nI a from ea]
    refine lv_istore (lv' := [(6, .int (nI a)), (4, .int tv), (3, .int (nI i)), (2, .int u), (1, .ref (S 0)), (0, .ref x)]) hx hb dL_act_361 hl (by decide) rfl (fun ls hl => ?_)
    have jn387 : ∀ (sv : Int32), (∃ s9, s9 ≤ 60 ∧ sv = nI s9) → ∀ (H : Heap) (locs : List Loc), va_P D vwCl (YW cI cC cT x A b0 nc nt f g ++ (SM cI cL S C T nc nt f g)) H → va_D A0 (YW cI cC cT x A b0 nc nt f g ++ (SM cI cL S C T nc nt f g)) → va_S A0 s.heap H locs → ∀ ls, lv_has ls 10 [(6, .int (nI a)), (4, .int tv), (3, .int (nI i)), (2, .int u), (1, .ref (S 0)), (0, .ref x)] → W p l e ({ frames := 8, cells := 20, slots := 200, locals := 150 } : Room) s m args below meth c H locs 0 0 (QX below D (actB cI cC cT cL x A b0 S h) A0 args s 20 200) (F0 m 387 ls [.int sv]) := by
      intro sv hsv H locs hP hD hS ls hl
      refine lv_istore (lv' := [(7, .int sv), (6, .int (nI a)), (4, .int tv), (3, .int (nI i)), (2, .int u), (1, .ref (S 0)), (0, .ref x)]) hx hb dL_act_387 hl (by decide) rfl (fun ls hl => ?_)
      obtain ⟨s9, hs9, es9⟩ := hsv
      subst es9
      refine lv_iload hx hb dL_act_389 (lv_at hl 1 rfl) ?_
      refine lv_aload_n hx hb dL_act_391 rfl (lv_at hl 5 rfl) ?_
      refine w_getM hx hb hts iL_act_X4 hown hK hP (List.mem_append_right _ (sm_b 0 rfl)) rfl 1 (by decide) fL_act_24 rfl rfl (v := .ref (S 1)) dL_act_392 ?_
      refine lv_iconst (v := 0) hx hb dL_act_395 (by decide) ?_
      refine w_ildM hx hb hK hP (List.mem_append_right _ (sm_b 1 rfl)) rfl 0 rfl (by decide) (by decide) (v := f 1) rfl dL_act_396 ?_
      refine lv_icmp_gt (tgt := 415) hx hb dL_act_397 (by decide) (fun c_397 => ?_) (fun c_397 => ?_)
      ·
        refine lv_iconst (v := 0) hx hb dL_act_415 (by decide) ?_
        refine lv_istore (lv' := [(8, .int 0), (7, .int (nI s9)), (6, .int (nI a)), (4, .int tv), (3, .int (nI i)), (2, .int u), (1, .ref (S 0)), (0, .ref x)]) hx hb dL_act_416 hl (by decide) rfl (fun ls hl => ?_)
        refine lv_iload hx hb dL_act_418 (lv_at hl 0 rfl) ?_
        refine lv_if_eq (tgt := 508) hx hb dL_act_420 (by decide) (fun c_420 => ?_) (fun c_420 => ?_)
        rotate_left
        · exact absurd rfl c_420
        refine lv_aload_n hx hb dL_act_508 rfl (lv_at hl 7 rfl) ?_
        refine lv_iload_n hx hb dL_act_509 rfl (lv_at hl 4 rfl) ?_
        refine lv_iload hx hb dL_act_510 (lv_at hl 2 rfl) ?_
        refine lv_iload hx hb dL_act_512 (lv_at hl 1 rfl) ?_
        refine c1_V (As := [.int (nI i), .int (nI a), .int (nI s9)]) (rest := []) (ws' := YW cI cC cT x A b0 nc nt (packF f (nI i).toNatClampNeg (nI a) (nI s9)) g ++ (SM cI cL S C T nc nt f g)) ⟨hx, hb, hml, hown, hts⟩ (mX3_pack l D cI cC cT cL hl0 x b0 A nc nt f g (nI i) (nI a) (nI s9) hnc) (cwV 3 hts gL_act_X3_pack rfl rfl rfl pX3_pack ⟨Nat.le_of_ble_eq_true rfl, Nat.le_of_ble_eq_true rfl⟩) hK hP hD hS hA hST ((Jf_l _ (Jf_all _ _ yw_fst))).1 ((Jf_l _ (Jf_all _ _ yw_fst))).1 0 rfl rfl rfl rfl hl.1 rfl (Nat.le_of_ble_eq_true rfl) dL_act_514 ⟨Nat.le_of_ble_eq_true rfl, Nat.le_of_ble_eq_true rfl⟩ rfl (fun E ce q9 H locs hE hP hS h1 h2 h3 => ?_) (fun hok H locs hP hD hS => ?_)
        rotate_left
        · exact absurd hok (by rw [(k_pack3 hnc hi9 (by omega) (by omega) (Or.inl c_397))]; decide)
        have eE : E = ISE := xe_3 (k_pack3 hnc hi9 (by omega) (by omega) (Or.inl c_397)) hE
        subst eE
        refine vx_catch hown [] ⟨508, 519, 522, 59⟩ [⟨658, 667, 670, 59⟩, ⟨814, 823, 826, 59⟩] (htab.trans rfl) (fun z hz => nomatch hz) (by decide) (by decide) (hts _ clL_act_59) (va_Nw.use rfl (hST.2.2.2.2.1 _ (by simp [CA]))) h1 h2 h3 ?_
        refine lv_astore (lv' := [(9, .ref q9), (8, .int 0), (7, .int (nI s9)), (6, .int (nI a)), (4, .int tv), (3, .int (nI i)), (2, .int u), (1, .ref (S 0)), (0, .ref x)]) hx hb dL_act_522 hl (by decide) rfl (fun ls hl => ?_)
        refine lv_iconst (v := (-1)) hx hb dL_act_524 (by decide) ?_
        refine lv_istore (lv' := [(5, .int (-1)), (9, .ref q9), (8, .int 0), (7, .int (nI s9)), (6, .int (nI a)), (4, .int tv), (3, .int (nI i)), (2, .int u), (1, .ref (S 0)), (0, .ref x)]) hx hb dL_act_525 hl (by decide) rfl (fun ls hl => ?_)
        refine lv_iload hx hb dL_act_527 (lv_at hl 0 rfl) ?_
        refine lv_iload hx hb dL_act_529 (lv_at hl 2 rfl) ?_
        refine lv_if_eq (tgt := 545) hx hb dL_act_531 (by decide) (fun c_531 => ?_) (fun c_531 => ?_)
        rotate_left
        · exact absurd rfl c_531
        refine lv_iconst (v := (-1)) hx hb dL_act_545 (by decide) ?_
        refine lv_icmp_ne (tgt := 553) hx hb dL_act_546 (by decide) (fun c_546 => ?_) (fun c_546 => ?_)
        · exact absurd rfl c_546
        refine lv_iconst (v := 1) hx hb dL_act_549 (by decide) ?_
        refine lv_goto (tgt := 554) hx hb dL_act_550 (by decide) ?_
        exact eX_z hx hb hr hlocks rfl (⟨rfl, S, C, T, nc, nt, f, g, rfl, G, rfl⟩) hP hD hS dL_act_554 (by decide) (by decide)
      ·
        refine lv_iload hx hb dL_act_400 (lv_at hl 0 rfl) ?_
        refine lv_aload_n hx hb dL_act_402 rfl (lv_at hl 5 rfl) ?_
        refine w_getM hx hb hts iL_act_X4 hown hK hP (List.mem_append_right _ (sm_b 0 rfl)) rfl 1 (by decide) fL_act_24 rfl rfl (v := .ref (S 1)) dL_act_403 ?_
        refine lv_iconst (v := 1) hx hb dL_act_406 (by decide) ?_
        refine w_ildM hx hb hK hP (List.mem_append_right _ (sm_b 1 rfl)) rfl 1 rfl (by decide) (by decide) (v := f 2) rfl dL_act_407 ?_
        refine lv_icmp_gt (tgt := 415) hx hb dL_act_408 (by decide) (fun c_408 => ?_) (fun c_408 => ?_)
        ·
          refine lv_iconst (v := 0) hx hb dL_act_415 (by decide) ?_
          refine lv_istore (lv' := [(8, .int 0), (7, .int (nI s9)), (6, .int (nI a)), (4, .int tv), (3, .int (nI i)), (2, .int u), (1, .ref (S 0)), (0, .ref x)]) hx hb dL_act_416 hl (by decide) rfl (fun ls hl => ?_)
          refine lv_iload hx hb dL_act_418 (lv_at hl 0 rfl) ?_
          refine lv_if_eq (tgt := 508) hx hb dL_act_420 (by decide) (fun c_420 => ?_) (fun c_420 => ?_)
          rotate_left
          · exact absurd rfl c_420
          refine lv_aload_n hx hb dL_act_508 rfl (lv_at hl 7 rfl) ?_
          refine lv_iload_n hx hb dL_act_509 rfl (lv_at hl 4 rfl) ?_
          refine lv_iload hx hb dL_act_510 (lv_at hl 2 rfl) ?_
          refine lv_iload hx hb dL_act_512 (lv_at hl 1 rfl) ?_
          refine c1_V (As := [.int (nI i), .int (nI a), .int (nI s9)]) (rest := []) (ws' := YW cI cC cT x A b0 nc nt (packF f (nI i).toNatClampNeg (nI a) (nI s9)) g ++ (SM cI cL S C T nc nt f g)) ⟨hx, hb, hml, hown, hts⟩ (mX3_pack l D cI cC cT cL hl0 x b0 A nc nt f g (nI i) (nI a) (nI s9) hnc) (cwV 3 hts gL_act_X3_pack rfl rfl rfl pX3_pack ⟨Nat.le_of_ble_eq_true rfl, Nat.le_of_ble_eq_true rfl⟩) hK hP hD hS hA hST ((Jf_l _ (Jf_all _ _ yw_fst))).1 ((Jf_l _ (Jf_all _ _ yw_fst))).1 0 rfl rfl rfl rfl hl.1 rfl (Nat.le_of_ble_eq_true rfl) dL_act_514 ⟨Nat.le_of_ble_eq_true rfl, Nat.le_of_ble_eq_true rfl⟩ rfl (fun E ce q9 H locs hE hP hS h1 h2 h3 => ?_) (fun hok H locs hP hD hS => ?_)
          rotate_left
          · exact absurd hok (by rw [(k_pack3 hnc hi9 (by omega) (by omega) (Or.inr c_408))]; decide)
          have eE : E = ISE := xe_3 (k_pack3 hnc hi9 (by omega) (by omega) (Or.inr c_408)) hE
          subst eE
          refine vx_catch hown [] ⟨508, 519, 522, 59⟩ [⟨658, 667, 670, 59⟩, ⟨814, 823, 826, 59⟩] (htab.trans rfl) (fun z hz => nomatch hz) (by decide) (by decide) (hts _ clL_act_59) (va_Nw.use rfl (hST.2.2.2.2.1 _ (by simp [CA]))) h1 h2 h3 ?_
          refine lv_astore (lv' := [(9, .ref q9), (8, .int 0), (7, .int (nI s9)), (6, .int (nI a)), (4, .int tv), (3, .int (nI i)), (2, .int u), (1, .ref (S 0)), (0, .ref x)]) hx hb dL_act_522 hl (by decide) rfl (fun ls hl => ?_)
          refine lv_iconst (v := (-1)) hx hb dL_act_524 (by decide) ?_
          refine lv_istore (lv' := [(5, .int (-1)), (9, .ref q9), (8, .int 0), (7, .int (nI s9)), (6, .int (nI a)), (4, .int tv), (3, .int (nI i)), (2, .int u), (1, .ref (S 0)), (0, .ref x)]) hx hb dL_act_525 hl (by decide) rfl (fun ls hl => ?_)
          refine lv_iload hx hb dL_act_527 (lv_at hl 0 rfl) ?_
          refine lv_iload hx hb dL_act_529 (lv_at hl 2 rfl) ?_
          refine lv_if_eq (tgt := 545) hx hb dL_act_531 (by decide) (fun c_531 => ?_) (fun c_531 => ?_)
          rotate_left
          · exact absurd rfl c_531
          refine lv_iconst (v := (-1)) hx hb dL_act_545 (by decide) ?_
          refine lv_icmp_ne (tgt := 553) hx hb dL_act_546 (by decide) (fun c_546 => ?_) (fun c_546 => ?_)
          · exact absurd rfl c_546
          refine lv_iconst (v := 1) hx hb dL_act_549 (by decide) ?_
          refine lv_goto (tgt := 554) hx hb dL_act_550 (by decide) ?_
          exact eX_z hx hb hr hlocks rfl (⟨rfl, S, C, T, nc, nt, f, g, rfl, G, rfl⟩) hP hD hS dL_act_554 (by decide) (by decide)
        ·
          refine lv_iconst (v := 1) hx hb dL_act_411 (by decide) ?_
          refine lv_goto (tgt := 416) hx hb dL_act_412 (by decide) ?_
          refine lv_istore (lv' := [(8, .int 1), (7, .int (nI s9)), (6, .int (nI a)), (4, .int tv), (3, .int (nI i)), (2, .int u), (1, .ref (S 0)), (0, .ref x)]) hx hb dL_act_416 hl (by decide) rfl (fun ls hl => ?_)
          refine lv_iload hx hb dL_act_418 (lv_at hl 0 rfl) ?_
          refine lv_if_eq (tgt := 508) hx hb dL_act_420 (by decide) (fun c_420 => ?_) (fun c_420 => ?_)
          · exact absurd c_420 (by decide)
          refine lv_aload_n hx hb dL_act_423 rfl (lv_at hl 6 rfl) ?_
          refine w_getM hx hb hts iL_act_X4 hown hK hP (List.mem_append_right _ (sm_b 0 rfl)) rfl 1 (by decide) fL_act_24 rfl rfl (v := .ref (S 1)) dL_act_424 ?_
          refine lv_iconst (v := 0) hx hb dL_act_427 (by decide) ?_
          refine lv_dup2_11 hx hb dL_act_428 rfl rfl ?_
          refine w_ildM hx hb hK hP (List.mem_append_right _ (sm_b 1 rfl)) rfl 0 rfl (by decide) (by decide) (v := f 1) rfl dL_act_429 ?_
          refine lv_iload hx hb dL_act_430 (lv_at hl 2 rfl) ?_
          refine lv_isub hx hb dL_act_432 ?_
          refine w_istJ (ws' := YW cI cC cT x A b0 nc nt f g ++ (SM cI cL S C T nc nt (upd f 1 ((f 1) - (nI a))) g)) hx hb hK hP hD hS 0 (Jf_r _ (J_store 0 (by decide) ((f 1) - (nI a)))) rfl rfl (by decide) (by decide) dL_act_433 (fun H locs hP hD hS => ?_)
          refine lv_aload_n hx hb dL_act_434 rfl (lv_at hl 6 rfl) ?_
          refine w_getM hx hb hts iL_act_X4 hown hK hP (List.mem_append_right _ (sm_b 0 rfl)) rfl 1 (by decide) fL_act_24 rfl rfl (v := .ref (S 1)) dL_act_435 ?_
          refine lv_iconst (v := 1) hx hb dL_act_438 (by decide) ?_
          refine lv_dup2_11 hx hb dL_act_439 rfl rfl ?_
          refine w_ildM hx hb hK hP (List.mem_append_right _ (sm_b 1 rfl)) rfl 1 rfl (by decide) (by decide) (v := f 2) (show (upd f 1 ((f 1) - (nI a))) 2 = f 2 from (up_o (by decide))) dL_act_440 ?_
          refine lv_iload hx hb dL_act_441 (lv_at hl 1 rfl) ?_
          refine lv_isub hx hb dL_act_443 ?_
          refine w_istJ (ws' := YW cI cC cT x A b0 nc nt f g ++ (SM cI cL S C T nc nt (upd (upd f 1 ((f 1) - (nI a))) 2 ((f 2) - (nI s9))) g)) hx hb hK hP hD hS 1 (Jf_r _ (J_store 1 (by decide) ((f 2) - (nI s9)))) rfl rfl (by decide) (by decide) dL_act_444 (fun H locs hP hD hS => ?_)
          refine lv_iload hx hb dL_act_445 (lv_at hl 2 rfl) ?_
          refine lv_iconst (v := 4) hx hb dL_act_447 (by decide) ?_
          refine lv_idiv hx hb dL_act_448 (by decide) ?_
          refine lv_istore (lv' := [(9, .int ((nI a) / 4)), (8, .int 1), (7, .int (nI s9)), (6, .int (nI a)), (4, .int tv), (3, .int (nI i)), (2, .int u), (1, .ref (S 0)), (0, .ref x)]) hx hb dL_act_449 hl (by decide) rfl (fun ls hl => ?_)
          refine lv_aload_n hx hb dL_act_451 rfl (lv_at hl 7 rfl) ?_
          refine w_getM hx hb hts iL_act_X4 hown hK hP (List.mem_append_right _ (sm_b 0 rfl)) rfl 5 (by decide) fL_act_9 rfl rfl (v := .ref (S 3)) dL_act_452 ?_
          refine lv_iload_n hx hb dL_act_455 rfl (lv_at hl 5 rfl) ?_
          refine w_qldA hx hb hK hP (List.mem_append_right _ (sm_b 3 rfl)) rfl i rfl (by omega) (by omega) (v := C i) rfl dL_act_456 ?_
          refine lv_iconst (v := 0) hx hb dL_act_457 (by decide) ?_
          refine lv_dup2_11 hx hb dL_act_458 rfl rfl ?_
          refine w_ildM hx hb hK hP (List.mem_append_right _ (sm_c (by omega))) rfl 0 rfl (by decide) (by decide) (v := f (7 + 3 * i)) (show (upd (upd f 1 ((f 1) - (nI a))) 2 ((f 2) - (nI s9))) (7 + 3 * i) = f (7 + 3 * i) from (Eq.trans (up_o (by omega)) (up_o (by omega)))) dL_act_459 ?_
          refine lv_iload hx hb dL_act_460 (lv_at hl 0 rfl) ?_
          refine lv_iload hx hb dL_act_462 (lv_at hl 2 rfl) ?_
          refine lv_iload hx hb dL_act_464 (lv_at hl 0 rfl) ?_
          refine lv_iload hx hb dL_act_466 (lv_at hl 0 rfl) ?_
          refine lv_iadd hx hb dL_act_468 ?_
          refine lv_icmp_le (tgt := 480) hx hb dL_act_469 (by decide) (fun c_469 => ?_) (fun c_469 => ?_)
          ·
            refine lv_iload hx hb dL_act_480 (lv_at hl 2 rfl) ?_
            refine lv_iadd hx hb dL_act_482 ?_
            refine lv_iadd hx hb dL_act_483 ?_
            refine w_istJ (ws' := YW cI cC cT x A b0 nc nt f g ++ (SM cI cL S C T nc nt (set3 (upd (upd f 1 ((f 1) - (nI a))) 2 ((f 2) - (nI s9))) (7 + 3 * i) ((f (7 + 3 * i)) + (((nI a) / 4) + (nI s9))) (f (8 + 3 * i)) (f (9 + 3 * i))) g)) hx hb hK hP hD hS 0 (Jf_r _ (J_cw0 hnc (by omega) ((f (7 + 3 * i)) + (((nI a) / 4) + (nI s9))) (show (upd (upd f 1 ((f 1) - (nI a))) 2 ((f 2) - (nI s9))) (8 + 3 * i) = f (8 + 3 * i) from (Eq.trans (up_o (by omega)) (up_o (by omega)))) (show (upd (upd f 1 ((f 1) - (nI a))) 2 ((f 2) - (nI s9))) (9 + 3 * i) = f (9 + 3 * i) from (Eq.trans (up_o (by omega)) (up_o (by omega)))))) rfl rfl (by decide) (by decide) dL_act_484 (fun H locs hP hD hS => ?_)
            refine lv_aload_n hx hb dL_act_485 rfl (lv_at hl 7 rfl) ?_
            refine w_getM hx hb hts iL_act_X4 hown hK hP (List.mem_append_right _ (sm_b 0 rfl)) rfl 5 (by decide) fL_act_9 rfl rfl (v := .ref (S 3)) dL_act_486 ?_
            refine lv_iload_n hx hb dL_act_489 rfl (lv_at hl 5 rfl) ?_
            refine w_qldA hx hb hK hP (List.mem_append_right _ (sm_b 3 rfl)) rfl i rfl (by omega) (by omega) (v := C i) rfl dL_act_490 ?_
            refine lv_iconst (v := 0) hx hb dL_act_491 (by decide) ?_
            refine w_ildM hx hb hK hP (List.mem_append_right _ (sm_c (by omega))) rfl 0 rfl (by decide) (by decide) (v := (f (7 + 3 * i)) + (((nI a) / 4) + (nI s9))) (show (set3 (upd (upd f 1 ((f 1) - (nI a))) 2 ((f 2) - (nI s9))) (7 + 3 * i) ((f (7 + 3 * i)) + (((nI a) / 4) + (nI s9))) (f (8 + 3 * i)) (f (9 + 3 * i))) (7 + 3 * i) = (f (7 + 3 * i)) + (((nI a) / 4) + (nI s9)) from (s7_0)) dL_act_492 ?_
            refine lv_bipush (v := 30) hx hb dL_act_493 (by decide) ?_
            refine lv_icmp_le (tgt := 508) hx hb dL_act_495 (by decide) (fun c_495 => ?_) (fun c_495 => ?_)
            ·
              refine lv_aload_n hx hb dL_act_508 rfl (lv_at hl 8 rfl) ?_
              refine lv_iload_n hx hb dL_act_509 rfl (lv_at hl 5 rfl) ?_
              refine lv_iload hx hb dL_act_510 (lv_at hl 3 rfl) ?_
              refine lv_iload hx hb dL_act_512 (lv_at hl 2 rfl) ?_
              refine c1_V (As := [.int (nI i), .int (nI a), .int (nI s9)]) (rest := []) (ws' := YW cI cC cT x A b0 nc nt (packF f (nI i).toNatClampNeg (nI a) (nI s9)) g ++ (SM cI cL S C T nc nt (set3 (upd (upd f 1 ((f 1) - (nI a))) 2 ((f 2) - (nI s9))) (7 + 3 * i) ((f (7 + 3 * i)) + (((nI a) / 4) + (nI s9))) (f (8 + 3 * i)) (f (9 + 3 * i))) g)) ⟨hx, hb, hml, hown, hts⟩ (mX3_pack l D cI cC cT cL hl0 x b0 A nc nt f g (nI i) (nI a) (nI s9) hnc) (cwV 3 hts gL_act_X3_pack rfl rfl rfl pX3_pack ⟨Nat.le_of_ble_eq_true rfl, Nat.le_of_ble_eq_true rfl⟩) hK hP hD hS hA hST ((Jf_l _ (Jf_all _ _ yw_fst))).1 ((Jf_l _ (Jf_all _ _ yw_fst))).1 0 rfl rfl rfl rfl hl.1 rfl (Nat.le_of_ble_eq_true rfl) dL_act_514 ⟨Nat.le_of_ble_eq_true rfl, Nat.le_of_ble_eq_true rfl⟩ rfl (fun E ce q9 H locs hE hP hS h1 h2 h3 => ?_) (fun hok H locs hP hD hS => ?_)
              · exact absurd hE (xe_no (k_pack0 hnc hi9 (by omega) (by omega) c_397 c_408) E)
              rw [nI_clamp (n := i) (by omega)] at hP hD ⊢
              refine lv_istore (lv' := [(5, .int (packF f i (nI a) (nI s9) (7 + 3 * i))), (9, .int ((nI a) / 4)), (8, .int 1), (7, .int (nI s9)), (6, .int (nI a)), (4, .int tv), (3, .int (nI i)), (2, .int u), (1, .ref (S 0)), (0, .ref x)]) hx hb dL_act_517 hl (by decide) rfl (fun ls hl => ?_)
              refine lv_goto (tgt := 527) hx hb dL_act_519 (by decide) ?_
              refine lv_iload hx hb dL_act_527 (lv_at hl 0 rfl) ?_
              refine lv_iload hx hb dL_act_529 (lv_at hl 2 rfl) ?_
              refine lv_if_eq (tgt := 545) hx hb dL_act_531 (by decide) (fun c_531 => ?_) (fun c_531 => ?_)
              · exact absurd c_531 (by decide)
              refine lv_aload_n hx hb dL_act_534 rfl (lv_at hl 8 rfl) ?_
              refine w_getM hx hb hts iL_act_X4 hown hK hP (List.mem_append_right _ (sm_b 0 rfl)) rfl 5 (by decide) fL_act_9 rfl rfl (v := .ref (S 3)) dL_act_535 ?_
              refine lv_iload_n hx hb dL_act_538 rfl (lv_at hl 6 rfl) ?_
              refine w_qldA hx hb hK hP (List.mem_append_right _ (sm_b 3 rfl)) rfl i rfl (by omega) (by omega) (v := C i) rfl dL_act_539 ?_
              refine lv_iconst (v := 0) hx hb dL_act_540 (by decide) ?_
              refine w_ildM hx hb hK hP (List.mem_append_right _ (sm_c (by omega))) rfl 0 rfl (by decide) (by decide) (v := (f (7 + 3 * i)) + (((nI a) / 4) + (nI s9))) (show (set3 (upd (upd f 1 ((f 1) - (nI a))) 2 ((f 2) - (nI s9))) (7 + 3 * i) ((f (7 + 3 * i)) + (((nI a) / 4) + (nI s9))) (f (8 + 3 * i)) (f (9 + 3 * i))) (7 + 3 * i) = (f (7 + 3 * i)) + (((nI a) / 4) + (nI s9)) from (s7_0)) dL_act_541 ?_
              refine lv_goto (tgt := 546) hx hb dL_act_542 (by decide) ?_
              refine lv_icmp_ne (tgt := 553) hx hb dL_act_546 (by decide) (fun c_546 => ?_) (fun c_546 => ?_)
              · exact absurd (pk_v (bq_1 c_469 c_495)) c_546
              refine lv_iconst (v := 1) hx hb dL_act_549 (by decide) ?_
              refine lv_goto (tgt := 554) hx hb dL_act_550 (by decide) ?_
              have eT := pk_f (bq_1 c_469 c_495)
              have hP := P_eq (congrArg (fun F9 => YW cI cC cT x A b0 nc nt (packF f i (nI a) (nI s9)) g ++ (SM cI cL S C T nc nt F9 g)) eT) hP
              have hD := D_eq (congrArg (fun F9 => YW cI cC cT x A b0 nc nt (packF f i (nI a) (nI s9)) g ++ (SM cI cL S C T nc nt F9 g)) eT) hD
              exact eX_z hx hb hr hlocks rfl (⟨rfl, S, C, T, nc, nt, _, g, rfl, g_pack a s9 hi9 (by omega) (by omega) c_397 c_408 G, rfl⟩) hP hD hS dL_act_554 (by decide) (by decide)
            ·
              refine lv_aload_n hx hb dL_act_498 rfl (lv_at hl 7 rfl) ?_
              refine w_getM hx hb hts iL_act_X4 hown hK hP (List.mem_append_right _ (sm_b 0 rfl)) rfl 5 (by decide) fL_act_9 rfl rfl (v := .ref (S 3)) dL_act_499 ?_
              refine lv_iload_n hx hb dL_act_502 rfl (lv_at hl 5 rfl) ?_
              refine w_qldA hx hb hK hP (List.mem_append_right _ (sm_b 3 rfl)) rfl i rfl (by omega) (by omega) (v := C i) rfl dL_act_503 ?_
              refine lv_iconst (v := 0) hx hb dL_act_504 (by decide) ?_
              refine lv_bipush (v := 30) hx hb dL_act_505 (by decide) ?_
              refine w_istJ (ws' := YW cI cC cT x A b0 nc nt f g ++ (SM cI cL S C T nc nt (set3 (upd (upd f 1 ((f 1) - (nI a))) 2 ((f 2) - (nI s9))) (7 + 3 * i) 30 (f (8 + 3 * i)) (f (9 + 3 * i))) g)) hx hb hK hP hD hS 0 (Jf_r _ (J_c0 hnc (by omega) 30)) rfl rfl (by decide) (by decide) dL_act_507 (fun H locs hP hD hS => ?_)
              refine lv_aload_n hx hb dL_act_508 rfl (lv_at hl 8 rfl) ?_
              refine lv_iload_n hx hb dL_act_509 rfl (lv_at hl 5 rfl) ?_
              refine lv_iload hx hb dL_act_510 (lv_at hl 3 rfl) ?_
              refine lv_iload hx hb dL_act_512 (lv_at hl 2 rfl) ?_
              refine c1_V (As := [.int (nI i), .int (nI a), .int (nI s9)]) (rest := []) (ws' := YW cI cC cT x A b0 nc nt (packF f (nI i).toNatClampNeg (nI a) (nI s9)) g ++ (SM cI cL S C T nc nt (set3 (upd (upd f 1 ((f 1) - (nI a))) 2 ((f 2) - (nI s9))) (7 + 3 * i) 30 (f (8 + 3 * i)) (f (9 + 3 * i))) g)) ⟨hx, hb, hml, hown, hts⟩ (mX3_pack l D cI cC cT cL hl0 x b0 A nc nt f g (nI i) (nI a) (nI s9) hnc) (cwV 3 hts gL_act_X3_pack rfl rfl rfl pX3_pack ⟨Nat.le_of_ble_eq_true rfl, Nat.le_of_ble_eq_true rfl⟩) hK hP hD hS hA hST ((Jf_l _ (Jf_all _ _ yw_fst))).1 ((Jf_l _ (Jf_all _ _ yw_fst))).1 0 rfl rfl rfl rfl hl.1 rfl (Nat.le_of_ble_eq_true rfl) dL_act_514 ⟨Nat.le_of_ble_eq_true rfl, Nat.le_of_ble_eq_true rfl⟩ rfl (fun E ce q9 H locs hE hP hS h1 h2 h3 => ?_) (fun hok H locs hP hD hS => ?_)
              · exact absurd hE (xe_no (k_pack0 hnc hi9 (by omega) (by omega) c_397 c_408) E)
              rw [nI_clamp (n := i) (by omega)] at hP hD ⊢
              refine lv_istore (lv' := [(5, .int (packF f i (nI a) (nI s9) (7 + 3 * i))), (9, .int ((nI a) / 4)), (8, .int 1), (7, .int (nI s9)), (6, .int (nI a)), (4, .int tv), (3, .int (nI i)), (2, .int u), (1, .ref (S 0)), (0, .ref x)]) hx hb dL_act_517 hl (by decide) rfl (fun ls hl => ?_)
              refine lv_goto (tgt := 527) hx hb dL_act_519 (by decide) ?_
              refine lv_iload hx hb dL_act_527 (lv_at hl 0 rfl) ?_
              refine lv_iload hx hb dL_act_529 (lv_at hl 2 rfl) ?_
              refine lv_if_eq (tgt := 545) hx hb dL_act_531 (by decide) (fun c_531 => ?_) (fun c_531 => ?_)
              · exact absurd c_531 (by decide)
              refine lv_aload_n hx hb dL_act_534 rfl (lv_at hl 8 rfl) ?_
              refine w_getM hx hb hts iL_act_X4 hown hK hP (List.mem_append_right _ (sm_b 0 rfl)) rfl 5 (by decide) fL_act_9 rfl rfl (v := .ref (S 3)) dL_act_535 ?_
              refine lv_iload_n hx hb dL_act_538 rfl (lv_at hl 6 rfl) ?_
              refine w_qldA hx hb hK hP (List.mem_append_right _ (sm_b 3 rfl)) rfl i rfl (by omega) (by omega) (v := C i) rfl dL_act_539 ?_
              refine lv_iconst (v := 0) hx hb dL_act_540 (by decide) ?_
              refine w_ildM hx hb hK hP (List.mem_append_right _ (sm_c (by omega))) rfl 0 rfl (by decide) (by decide) (v := 30) (show (set3 (upd (upd f 1 ((f 1) - (nI a))) 2 ((f 2) - (nI s9))) (7 + 3 * i) 30 (f (8 + 3 * i)) (f (9 + 3 * i))) (7 + 3 * i) = 30 from (s7_0)) dL_act_541 ?_
              refine lv_goto (tgt := 546) hx hb dL_act_542 (by decide) ?_
              refine lv_icmp_ne (tgt := 553) hx hb dL_act_546 (by decide) (fun c_546 => ?_) (fun c_546 => ?_)
              · exact absurd (pk_v (bq_2 c_469 c_495)) c_546
              refine lv_iconst (v := 1) hx hb dL_act_549 (by decide) ?_
              refine lv_goto (tgt := 554) hx hb dL_act_550 (by decide) ?_
              have eT := pk_f (bq_2 c_469 c_495)
              have hP := P_eq (congrArg (fun F9 => YW cI cC cT x A b0 nc nt (packF f i (nI a) (nI s9)) g ++ (SM cI cL S C T nc nt F9 g)) eT) hP
              have hD := D_eq (congrArg (fun F9 => YW cI cC cT x A b0 nc nt (packF f i (nI a) (nI s9)) g ++ (SM cI cL S C T nc nt F9 g)) eT) hD
              exact eX_z hx hb hr hlocks rfl (⟨rfl, S, C, T, nc, nt, _, g, rfl, g_pack a s9 hi9 (by omega) (by omega) c_397 c_408 G, rfl⟩) hP hD hS dL_act_554 (by decide) (by decide)
          ·
            refine lv_iload hx hb dL_act_472 (lv_at hl 0 rfl) ?_
            refine lv_iload hx hb dL_act_474 (lv_at hl 0 rfl) ?_
            refine lv_iadd hx hb dL_act_476 ?_
            refine lv_goto (tgt := 482) hx hb dL_act_477 (by decide) ?_
            refine lv_iadd hx hb dL_act_482 ?_
            refine lv_iadd hx hb dL_act_483 ?_
            refine w_istJ (ws' := YW cI cC cT x A b0 nc nt f g ++ (SM cI cL S C T nc nt (set3 (upd (upd f 1 ((f 1) - (nI a))) 2 ((f 2) - (nI s9))) (7 + 3 * i) ((f (7 + 3 * i)) + (((nI a) / 4) + (((nI a) / 4) + ((nI a) / 4)))) (f (8 + 3 * i)) (f (9 + 3 * i))) g)) hx hb hK hP hD hS 0 (Jf_r _ (J_cw0 hnc (by omega) ((f (7 + 3 * i)) + (((nI a) / 4) + (((nI a) / 4) + ((nI a) / 4)))) (show (upd (upd f 1 ((f 1) - (nI a))) 2 ((f 2) - (nI s9))) (8 + 3 * i) = f (8 + 3 * i) from (Eq.trans (up_o (by omega)) (up_o (by omega)))) (show (upd (upd f 1 ((f 1) - (nI a))) 2 ((f 2) - (nI s9))) (9 + 3 * i) = f (9 + 3 * i) from (Eq.trans (up_o (by omega)) (up_o (by omega)))))) rfl rfl (by decide) (by decide) dL_act_484 (fun H locs hP hD hS => ?_)
            refine lv_aload_n hx hb dL_act_485 rfl (lv_at hl 7 rfl) ?_
            refine w_getM hx hb hts iL_act_X4 hown hK hP (List.mem_append_right _ (sm_b 0 rfl)) rfl 5 (by decide) fL_act_9 rfl rfl (v := .ref (S 3)) dL_act_486 ?_
            refine lv_iload_n hx hb dL_act_489 rfl (lv_at hl 5 rfl) ?_
            refine w_qldA hx hb hK hP (List.mem_append_right _ (sm_b 3 rfl)) rfl i rfl (by omega) (by omega) (v := C i) rfl dL_act_490 ?_
            refine lv_iconst (v := 0) hx hb dL_act_491 (by decide) ?_
            refine w_ildM hx hb hK hP (List.mem_append_right _ (sm_c (by omega))) rfl 0 rfl (by decide) (by decide) (v := (f (7 + 3 * i)) + (((nI a) / 4) + (((nI a) / 4) + ((nI a) / 4)))) (show (set3 (upd (upd f 1 ((f 1) - (nI a))) 2 ((f 2) - (nI s9))) (7 + 3 * i) ((f (7 + 3 * i)) + (((nI a) / 4) + (((nI a) / 4) + ((nI a) / 4)))) (f (8 + 3 * i)) (f (9 + 3 * i))) (7 + 3 * i) = (f (7 + 3 * i)) + (((nI a) / 4) + (((nI a) / 4) + ((nI a) / 4))) from (s7_0)) dL_act_492 ?_
            refine lv_bipush (v := 30) hx hb dL_act_493 (by decide) ?_
            refine lv_icmp_le (tgt := 508) hx hb dL_act_495 (by decide) (fun c_495 => ?_) (fun c_495 => ?_)
            ·
              refine lv_aload_n hx hb dL_act_508 rfl (lv_at hl 8 rfl) ?_
              refine lv_iload_n hx hb dL_act_509 rfl (lv_at hl 5 rfl) ?_
              refine lv_iload hx hb dL_act_510 (lv_at hl 3 rfl) ?_
              refine lv_iload hx hb dL_act_512 (lv_at hl 2 rfl) ?_
              refine c1_V (As := [.int (nI i), .int (nI a), .int (nI s9)]) (rest := []) (ws' := YW cI cC cT x A b0 nc nt (packF f (nI i).toNatClampNeg (nI a) (nI s9)) g ++ (SM cI cL S C T nc nt (set3 (upd (upd f 1 ((f 1) - (nI a))) 2 ((f 2) - (nI s9))) (7 + 3 * i) ((f (7 + 3 * i)) + (((nI a) / 4) + (((nI a) / 4) + ((nI a) / 4)))) (f (8 + 3 * i)) (f (9 + 3 * i))) g)) ⟨hx, hb, hml, hown, hts⟩ (mX3_pack l D cI cC cT cL hl0 x b0 A nc nt f g (nI i) (nI a) (nI s9) hnc) (cwV 3 hts gL_act_X3_pack rfl rfl rfl pX3_pack ⟨Nat.le_of_ble_eq_true rfl, Nat.le_of_ble_eq_true rfl⟩) hK hP hD hS hA hST ((Jf_l _ (Jf_all _ _ yw_fst))).1 ((Jf_l _ (Jf_all _ _ yw_fst))).1 0 rfl rfl rfl rfl hl.1 rfl (Nat.le_of_ble_eq_true rfl) dL_act_514 ⟨Nat.le_of_ble_eq_true rfl, Nat.le_of_ble_eq_true rfl⟩ rfl (fun E ce q9 H locs hE hP hS h1 h2 h3 => ?_) (fun hok H locs hP hD hS => ?_)
              · exact absurd hE (xe_no (k_pack0 hnc hi9 (by omega) (by omega) c_397 c_408) E)
              rw [nI_clamp (n := i) (by omega)] at hP hD ⊢
              refine lv_istore (lv' := [(5, .int (packF f i (nI a) (nI s9) (7 + 3 * i))), (9, .int ((nI a) / 4)), (8, .int 1), (7, .int (nI s9)), (6, .int (nI a)), (4, .int tv), (3, .int (nI i)), (2, .int u), (1, .ref (S 0)), (0, .ref x)]) hx hb dL_act_517 hl (by decide) rfl (fun ls hl => ?_)
              refine lv_goto (tgt := 527) hx hb dL_act_519 (by decide) ?_
              refine lv_iload hx hb dL_act_527 (lv_at hl 0 rfl) ?_
              refine lv_iload hx hb dL_act_529 (lv_at hl 2 rfl) ?_
              refine lv_if_eq (tgt := 545) hx hb dL_act_531 (by decide) (fun c_531 => ?_) (fun c_531 => ?_)
              · exact absurd c_531 (by decide)
              refine lv_aload_n hx hb dL_act_534 rfl (lv_at hl 8 rfl) ?_
              refine w_getM hx hb hts iL_act_X4 hown hK hP (List.mem_append_right _ (sm_b 0 rfl)) rfl 5 (by decide) fL_act_9 rfl rfl (v := .ref (S 3)) dL_act_535 ?_
              refine lv_iload_n hx hb dL_act_538 rfl (lv_at hl 6 rfl) ?_
              refine w_qldA hx hb hK hP (List.mem_append_right _ (sm_b 3 rfl)) rfl i rfl (by omega) (by omega) (v := C i) rfl dL_act_539 ?_
              refine lv_iconst (v := 0) hx hb dL_act_540 (by decide) ?_
              refine w_ildM hx hb hK hP (List.mem_append_right _ (sm_c (by omega))) rfl 0 rfl (by decide) (by decide) (v := (f (7 + 3 * i)) + (((nI a) / 4) + (((nI a) / 4) + ((nI a) / 4)))) (show (set3 (upd (upd f 1 ((f 1) - (nI a))) 2 ((f 2) - (nI s9))) (7 + 3 * i) ((f (7 + 3 * i)) + (((nI a) / 4) + (((nI a) / 4) + ((nI a) / 4)))) (f (8 + 3 * i)) (f (9 + 3 * i))) (7 + 3 * i) = (f (7 + 3 * i)) + (((nI a) / 4) + (((nI a) / 4) + ((nI a) / 4))) from (s7_0)) dL_act_541 ?_
              refine lv_goto (tgt := 546) hx hb dL_act_542 (by decide) ?_
              refine lv_icmp_ne (tgt := 553) hx hb dL_act_546 (by decide) (fun c_546 => ?_) (fun c_546 => ?_)
              · exact absurd (pk_v (bq_3 c_469 c_495)) c_546
              refine lv_iconst (v := 1) hx hb dL_act_549 (by decide) ?_
              refine lv_goto (tgt := 554) hx hb dL_act_550 (by decide) ?_
              have eT := pk_f (bq_3 c_469 c_495)
              have hP := P_eq (congrArg (fun F9 => YW cI cC cT x A b0 nc nt (packF f i (nI a) (nI s9)) g ++ (SM cI cL S C T nc nt F9 g)) eT) hP
              have hD := D_eq (congrArg (fun F9 => YW cI cC cT x A b0 nc nt (packF f i (nI a) (nI s9)) g ++ (SM cI cL S C T nc nt F9 g)) eT) hD
              exact eX_z hx hb hr hlocks rfl (⟨rfl, S, C, T, nc, nt, _, g, rfl, g_pack a s9 hi9 (by omega) (by omega) c_397 c_408 G, rfl⟩) hP hD hS dL_act_554 (by decide) (by decide)
            ·
              refine lv_aload_n hx hb dL_act_498 rfl (lv_at hl 7 rfl) ?_
              refine w_getM hx hb hts iL_act_X4 hown hK hP (List.mem_append_right _ (sm_b 0 rfl)) rfl 5 (by decide) fL_act_9 rfl rfl (v := .ref (S 3)) dL_act_499 ?_
              refine lv_iload_n hx hb dL_act_502 rfl (lv_at hl 5 rfl) ?_
              refine w_qldA hx hb hK hP (List.mem_append_right _ (sm_b 3 rfl)) rfl i rfl (by omega) (by omega) (v := C i) rfl dL_act_503 ?_
              refine lv_iconst (v := 0) hx hb dL_act_504 (by decide) ?_
              refine lv_bipush (v := 30) hx hb dL_act_505 (by decide) ?_
              refine w_istJ (ws' := YW cI cC cT x A b0 nc nt f g ++ (SM cI cL S C T nc nt (set3 (upd (upd f 1 ((f 1) - (nI a))) 2 ((f 2) - (nI s9))) (7 + 3 * i) 30 (f (8 + 3 * i)) (f (9 + 3 * i))) g)) hx hb hK hP hD hS 0 (Jf_r _ (J_c0 hnc (by omega) 30)) rfl rfl (by decide) (by decide) dL_act_507 (fun H locs hP hD hS => ?_)
              refine lv_aload_n hx hb dL_act_508 rfl (lv_at hl 8 rfl) ?_
              refine lv_iload_n hx hb dL_act_509 rfl (lv_at hl 5 rfl) ?_
              refine lv_iload hx hb dL_act_510 (lv_at hl 3 rfl) ?_
              refine lv_iload hx hb dL_act_512 (lv_at hl 2 rfl) ?_
              refine c1_V (As := [.int (nI i), .int (nI a), .int (nI s9)]) (rest := []) (ws' := YW cI cC cT x A b0 nc nt (packF f (nI i).toNatClampNeg (nI a) (nI s9)) g ++ (SM cI cL S C T nc nt (set3 (upd (upd f 1 ((f 1) - (nI a))) 2 ((f 2) - (nI s9))) (7 + 3 * i) 30 (f (8 + 3 * i)) (f (9 + 3 * i))) g)) ⟨hx, hb, hml, hown, hts⟩ (mX3_pack l D cI cC cT cL hl0 x b0 A nc nt f g (nI i) (nI a) (nI s9) hnc) (cwV 3 hts gL_act_X3_pack rfl rfl rfl pX3_pack ⟨Nat.le_of_ble_eq_true rfl, Nat.le_of_ble_eq_true rfl⟩) hK hP hD hS hA hST ((Jf_l _ (Jf_all _ _ yw_fst))).1 ((Jf_l _ (Jf_all _ _ yw_fst))).1 0 rfl rfl rfl rfl hl.1 rfl (Nat.le_of_ble_eq_true rfl) dL_act_514 ⟨Nat.le_of_ble_eq_true rfl, Nat.le_of_ble_eq_true rfl⟩ rfl (fun E ce q9 H locs hE hP hS h1 h2 h3 => ?_) (fun hok H locs hP hD hS => ?_)
              · exact absurd hE (xe_no (k_pack0 hnc hi9 (by omega) (by omega) c_397 c_408) E)
              rw [nI_clamp (n := i) (by omega)] at hP hD ⊢
              refine lv_istore (lv' := [(5, .int (packF f i (nI a) (nI s9) (7 + 3 * i))), (9, .int ((nI a) / 4)), (8, .int 1), (7, .int (nI s9)), (6, .int (nI a)), (4, .int tv), (3, .int (nI i)), (2, .int u), (1, .ref (S 0)), (0, .ref x)]) hx hb dL_act_517 hl (by decide) rfl (fun ls hl => ?_)
              refine lv_goto (tgt := 527) hx hb dL_act_519 (by decide) ?_
              refine lv_iload hx hb dL_act_527 (lv_at hl 0 rfl) ?_
              refine lv_iload hx hb dL_act_529 (lv_at hl 2 rfl) ?_
              refine lv_if_eq (tgt := 545) hx hb dL_act_531 (by decide) (fun c_531 => ?_) (fun c_531 => ?_)
              · exact absurd c_531 (by decide)
              refine lv_aload_n hx hb dL_act_534 rfl (lv_at hl 8 rfl) ?_
              refine w_getM hx hb hts iL_act_X4 hown hK hP (List.mem_append_right _ (sm_b 0 rfl)) rfl 5 (by decide) fL_act_9 rfl rfl (v := .ref (S 3)) dL_act_535 ?_
              refine lv_iload_n hx hb dL_act_538 rfl (lv_at hl 6 rfl) ?_
              refine w_qldA hx hb hK hP (List.mem_append_right _ (sm_b 3 rfl)) rfl i rfl (by omega) (by omega) (v := C i) rfl dL_act_539 ?_
              refine lv_iconst (v := 0) hx hb dL_act_540 (by decide) ?_
              refine w_ildM hx hb hK hP (List.mem_append_right _ (sm_c (by omega))) rfl 0 rfl (by decide) (by decide) (v := 30) (show (set3 (upd (upd f 1 ((f 1) - (nI a))) 2 ((f 2) - (nI s9))) (7 + 3 * i) 30 (f (8 + 3 * i)) (f (9 + 3 * i))) (7 + 3 * i) = 30 from (s7_0)) dL_act_541 ?_
              refine lv_goto (tgt := 546) hx hb dL_act_542 (by decide) ?_
              refine lv_icmp_ne (tgt := 553) hx hb dL_act_546 (by decide) (fun c_546 => ?_) (fun c_546 => ?_)
              · exact absurd (pk_v (bq_4 c_469 c_495)) c_546
              refine lv_iconst (v := 1) hx hb dL_act_549 (by decide) ?_
              refine lv_goto (tgt := 554) hx hb dL_act_550 (by decide) ?_
              have eT := pk_f (bq_4 c_469 c_495)
              have hP := P_eq (congrArg (fun F9 => YW cI cC cT x A b0 nc nt (packF f i (nI a) (nI s9)) g ++ (SM cI cL S C T nc nt F9 g)) eT) hP
              have hD := D_eq (congrArg (fun F9 => YW cI cC cT x A b0 nc nt (packF f i (nI a) (nI s9)) g ++ (SM cI cL S C T nc nt F9 g)) eT) hD
              exact eX_z hx hb hr hlocks rfl (⟨rfl, S, C, T, nc, nt, _, g, rfl, g_pack a s9 hi9 (by omega) (by omega) c_397 c_408 G, rfl⟩) hP hD hS dL_act_554 (by decide) (by decide)
    refine lv_iload_n hx hb dL_act_363 rfl (lv_at hl 3 rfl) ?_
    refine lv_bipush (v := 7) hx hb dL_act_364 (by decide) ?_
    refine lv_ishr hx hb dL_act_366 ?_
    refine lv_iload_n hx hb dL_act_367 rfl (lv_at hl 3 rfl) ?_
    refine lv_iconst (v := 4) hx hb dL_act_368 (by decide) ?_
    refine lv_ishr hx hb dL_act_369 ?_
    refine lv_iconst (v := 3) hx hb dL_act_370 (by decide) ?_
    refine c0_S (As := [.int (u >>> (4 &&& 31)), .int 3]) (rest := [.int (u >>> (7 &&& 31))]) (ws' := YW cI cC cT x A b0 nc nt f g ++ (SM cI cL S C T nc nt f g)) ⟨hx, hb, hml, hown, hts⟩ (mL_below l D cI cC cT cL (u >>> (4 &&& 31)) 3 (by decide)) (va_cwS 2 hts gL_act_L_below rfl rfl rfl pL_below ⟨Nat.le_of_ble_eq_true rfl, Nat.le_of_ble_eq_true rfl⟩) hK hP hD hS hA hST (Jf_nil _).1 rfl hl.1 rfl (Nat.le_of_ble_eq_true rfl) dL_act_371 ⟨Nat.le_of_ble_eq_true rfl, Nat.le_of_ble_eq_true rfl⟩ rfl (fun H locs hP hD hS => ?_)
    refine lv_if_ne (tgt := 382) hx hb dL_act_374 (by decide) (fun c_374 => ?_) (fun c_374 => ?_)
    ·
      refine lv_bipush (v := 20) hx hb dL_act_382 (by decide) ?_
      refine c0_S (As := [.int (u >>> (7 &&& 31)), .int 20]) (rest := []) (ws' := YW cI cC cT x A b0 nc nt f g ++ (SM cI cL S C T nc nt f g)) ⟨hx, hb, hml, hown, hts⟩ (mL_below l D cI cC cT cL (u >>> (7 &&& 31)) 20 (by decide)) (va_cwS 2 hts gL_act_L_below rfl rfl rfl pL_below ⟨Nat.le_of_ble_eq_true rfl, Nat.le_of_ble_eq_true rfl⟩) hK hP hD hS hA hST (Jf_nil _).1 rfl hl.1 rfl (Nat.le_of_ble_eq_true rfl) dL_act_384 ⟨Nat.le_of_ble_eq_true rfl, Nat.le_of_ble_eq_true rfl⟩ rfl (fun H locs hP hD hS => ?_)
      obtain ⟨s9, hs9, es9⟩ := bel_n (u >>> (7 &&& 31)) 20 (by decide) (by decide)
      exact jn387 _ ⟨s9, by omega, es9⟩ _ _ hP hD hS _ (lv_sub hl [0, 1, 2, 3, 4, 5] rfl)
    ·
      refine lv_bipush (v := 61) hx hb dL_act_377 (by decide) ?_
      refine lv_goto (tgt := 384) hx hb dL_act_379 (by decide) ?_
      refine c0_S (As := [.int (u >>> (7 &&& 31)), .int 61]) (rest := []) (ws' := YW cI cC cT x A b0 nc nt f g ++ (SM cI cL S C T nc nt f g)) ⟨hx, hb, hml, hown, hts⟩ (mL_below l D cI cC cT cL (u >>> (7 &&& 31)) 61 (by decide)) (va_cwS 2 hts gL_act_L_below rfl rfl rfl pL_below ⟨Nat.le_of_ble_eq_true rfl, Nat.le_of_ble_eq_true rfl⟩) hK hP hD hS hA hST (Jf_nil _).1 rfl hl.1 rfl (Nat.le_of_ble_eq_true rfl) dL_act_384 ⟨Nat.le_of_ble_eq_true rfl, Nat.le_of_ble_eq_true rfl⟩ rfl (fun H locs hP hD hS => ?_)
      obtain ⟨s9, hs9, es9⟩ := bel_n (u >>> (7 &&& 31)) 61 (by decide) (by decide)
      exact jn387 _ ⟨s9, by omega, es9⟩ _ _ hP hD hS _ (lv_sub hl [0, 1, 2, 3, 4, 5] rfl)
  ·
    refine lv_iconst (v := 1) hx hb dL_act_351 (by decide) ?_
    exact eX_z hx hb hr hlocks rfl (⟨rfl, S, C, T, nc, nt, f, g, rfl, G, rfl⟩) hP hD hS dL_act_352 (by decide) (by decide)

set_option maxHeartbeats 4000000 in
set_option maxRecDepth 100000 in
theorem act_pour {p : Program} {l : Launch} {e : Env} {s : State} {m : MethodId} {args : Array Value} {below : List Frame} {meth : Method} {c : Code} {A0 : Nat → Prop} {D : va_G} {cI cC cT cL : ClassId} {x b0 : Nat} {A S C T : Nat → Nat} {nc nt h : Nat} {f g : Nat → Int32} {u cv tv : Int32} {H : Heap} {locs : List Loc} {ls : Array Slot} (EA : AE p l s m meth c args A0 D cI cC cT cL) (G : GS2 nc nt f g h) (hcv : (nc = 0 ∧ cv = -1) ∨ ∃ i, i < nc ∧ cv = nI i) (htv : (nt = 0 ∧ tv = -1) ∨ ∃ i, i < nt ∧ tv = nI i) (hP : va_P D vwCl (YW cI cC cT x A b0 nc nt f g ++ (SM cI cL S C T nc nt f g)) H) (hD : va_D A0 (YW cI cC cT x A b0 nc nt f g ++ (SM cI cL S C T nc nt f g))) (hS : va_S A0 s.heap H locs) (hl : lv_has ls 10 [(4, .int tv), (3, .int cv), (2, .int u), (1, .ref (S 0)), (0, .ref x)]) : W p l e ({ frames := 8, cells := 20, slots := 200, locals := 150 } : Room) s m args below meth c H locs 0 0 (QX below D (actB cI cC cT cL x A b0 S h) A0 args s 20 200) (F0 m 555 ls []) := by
  obtain ⟨hx, hb, hml, hr, hown, hts, hlocks, hK, hA, hST, htab, hl0⟩ := id EA
  obtain ⟨⟨hnc, hnt, hI, hg, h0⟩, hz, hxc, hxt⟩ := id G
  have hAA : va_AOA .int s := hST.2.2.2.2.2.2.2.2.2.1
  refine lv_iload_n hx hb dL_act_555 rfl (lv_at hl 1 rfl) ?_
  refine lv_if_ge (tgt := 561) hx hb dL_act_556 (by decide) (fun c_556 => ?_) (fun c_556 => ?_)
  ·
    obtain ⟨i, hi9, ei⟩ := c_of (by omega) hcv c_556
    subst ei
    refine lv_iconst (v := 1) hx hb dL_act_561 (by decide) ?_
    refine lv_iload_n hx hb dL_act_562 rfl (lv_at hl 2 rfl) ?_
    refine lv_bipush (v := 6) hx hb dL_act_563 (by decide) ?_
    refine lv_ishr hx hb dL_act_565 ?_
    refine lv_bipush (v := 20) hx hb dL_act_566 (by decide) ?_
    refine c0_S (As := [.int (u >>> (6 &&& 31)), .int 20]) (rest := [.int 1]) (ws' := YW cI cC cT x A b0 nc nt f g ++ (SM cI cL S C T nc nt f g)) ⟨hx, hb, hml, hown, hts⟩ (mL_below l D cI cC cT cL (u >>> (6 &&& 31)) 20 (by decide)) (va_cwS 2 hts gL_act_L_below rfl rfl rfl pL_below ⟨Nat.le_of_ble_eq_true rfl, Nat.le_of_ble_eq_true rfl⟩) hK hP hD hS hA hST (Jf_nil _).1 rfl hl.1 rfl (Nat.le_of_ble_eq_true rfl) dL_act_568 ⟨Nat.le_of_ble_eq_true rfl, Nat.le_of_ble_eq_true rfl⟩ rfl (fun H locs hP hD hS => ?_)
    obtain ⟨r9, hr9, er9⟩ := bel_n (u >>> (6 &&& 31)) 20 (by decide) (by decide)
    rw [show (bel (u >>> (6 &&& 31)) 20 : Int32) = nI r9 from er9]
    refine lv_iadd hx hb dL_act_571 ?_
    obtain ⟨m9, hm1, hm3, em⟩ : ∃ m9, 1 ≤ m9 ∧ m9 ≤ 20 ∧ 1 + nI r9 = nI m9 := ⟨1 + r9, by omega, by omega, nI_add 1 r9⟩
    rw [em]
    refine lv_istore (lv' := [(6, .int (nI m9)), (4, .int tv), (3, .int (nI i)), (2, .int u), (1, .ref (S 0)), (0, .ref x)]) hx hb dL_act_572 hl (by decide) rfl (fun ls hl => ?_)
    refine lv_aload_n hx hb dL_act_574 rfl (lv_at hl 4 rfl) ?_
    refine w_getM hx hb hts iL_act_X4 hown hK hP (List.mem_append_right _ (sm_b 0 rfl)) rfl 5 (by decide) fL_act_9 rfl rfl (v := .ref (S 3)) dL_act_575 ?_
    refine lv_iload_n hx hb dL_act_578 rfl (lv_at hl 2 rfl) ?_
    refine w_qldA hx hb hK hP (List.mem_append_right _ (sm_b 3 rfl)) rfl i rfl (by omega) (by omega) (v := C i) rfl dL_act_579 ?_
    refine lv_astore (lv' := [(7, .ref (C i)), (6, .int (nI m9)), (4, .int tv), (3, .int (nI i)), (2, .int u), (1, .ref (S 0)), (0, .ref x)]) hx hb dL_act_580 hl (by decide) rfl (fun ls hl => ?_)
    refine lv_iload hx hb dL_act_582 (lv_at hl 1 rfl) ?_
    refine lv_aload_n hx hb dL_act_584 rfl (lv_at hl 5 rfl) ?_
    refine w_getM hx hb hts iL_act_X4 hown hK hP (List.mem_append_right _ (sm_b 0 rfl)) rfl 1 (by decide) fL_act_24 rfl rfl (v := .ref (S 1)) dL_act_585 ?_
    refine lv_iconst (v := 2) hx hb dL_act_588 (by decide) ?_
    refine w_ildM hx hb hK hP (List.mem_append_right _ (sm_b 1 rfl)) rfl 2 rfl (by decide) (by decide) (v := f 3) rfl dL_act_589 ?_
    refine lv_icmp_gt (tgt := 609) hx hb dL_act_590 (by decide) (fun c_590 => ?_) (fun c_590 => ?_)
    ·
      refine lv_iconst (v := 0) hx hb dL_act_609 (by decide) ?_
      refine lv_istore (lv' := [(8, .int 0), (7, .ref (C i)), (6, .int (nI m9)), (4, .int tv), (3, .int (nI i)), (2, .int u), (1, .ref (S 0)), (0, .ref x)]) hx hb dL_act_610 hl (by decide) rfl (fun ls hl => ?_)
      refine lv_iload hx hb dL_act_612 (lv_at hl 0 rfl) ?_
      refine lv_if_eq (tgt := 658) hx hb dL_act_614 (by decide) (fun c_614 => ?_) (fun c_614 => ?_)
      rotate_left
      · exact absurd rfl c_614
      refine lv_aload_n hx hb dL_act_658 rfl (lv_at hl 7 rfl) ?_
      refine lv_iload_n hx hb dL_act_659 rfl (lv_at hl 4 rfl) ?_
      refine lv_iload hx hb dL_act_660 (lv_at hl 2 rfl) ?_
      refine c1_V (As := [.int (nI i), .int (nI m9)]) (rest := []) (ws' := YW cI cC cT x A b0 nc nt (pourF f (nI i).toNatClampNeg (nI m9)) g ++ (SM cI cL S C T nc nt f g)) ⟨hx, hb, hml, hown, hts⟩ (mX3_pour l D cI cC cT cL hl0 x b0 A nc nt f g (nI i) (nI m9) hnc) (cwV 2 hts gL_act_X3_pour rfl rfl rfl pX3_pour ⟨Nat.le_of_ble_eq_true rfl, Nat.le_of_ble_eq_true rfl⟩) hK hP hD hS hA hST ((Jf_l _ (Jf_all _ _ yw_fst))).1 ((Jf_l _ (Jf_all _ _ yw_fst))).1 0 rfl rfl rfl rfl hl.1 rfl (Nat.le_of_ble_eq_true rfl) dL_act_662 ⟨Nat.le_of_ble_eq_true rfl, Nat.le_of_ble_eq_true rfl⟩ rfl (fun E ce q9 H locs hE hP hS h1 h2 h3 => ?_) (fun hok H locs hP hD hS => ?_)
      rotate_left
      · exact absurd hok (by rw [(k_pour3 hnc hi9 hm1 hm3 (Or.inl c_590))]; decide)
      have eE : E = ISE := xe_3 (k_pour3 hnc hi9 hm1 hm3 (Or.inl c_590)) hE
      subst eE
      refine vx_catch hown [⟨508, 519, 522, 59⟩] ⟨658, 667, 670, 59⟩ [⟨814, 823, 826, 59⟩] (htab.trans rfl) (fun z hz => by rw [List.mem_singleton.mp hz]; exact Or.inl (by decide)) (by decide) (by decide) (hts _ clL_act_59) (va_Nw.use rfl (hST.2.2.2.2.1 _ (by simp [CA]))) h1 h2 h3 ?_
      refine lv_astore (lv' := [(9, .ref q9), (8, .int 0), (7, .ref (C i)), (6, .int (nI m9)), (4, .int tv), (3, .int (nI i)), (2, .int u), (1, .ref (S 0)), (0, .ref x)]) hx hb dL_act_670 hl (by decide) rfl (fun ls hl => ?_)
      refine lv_iconst (v := (-1)) hx hb dL_act_672 (by decide) ?_
      refine lv_istore (lv' := [(5, .int (-1)), (9, .ref q9), (8, .int 0), (7, .ref (C i)), (6, .int (nI m9)), (4, .int tv), (3, .int (nI i)), (2, .int u), (1, .ref (S 0)), (0, .ref x)]) hx hb dL_act_673 hl (by decide) rfl (fun ls hl => ?_)
      refine lv_iload hx hb dL_act_675 (lv_at hl 0 rfl) ?_
      refine lv_iload hx hb dL_act_677 (lv_at hl 2 rfl) ?_
      refine lv_if_eq (tgt := 689) hx hb dL_act_679 (by decide) (fun c_679 => ?_) (fun c_679 => ?_)
      rotate_left
      · exact absurd rfl c_679
      refine lv_iconst (v := (-1)) hx hb dL_act_689 (by decide) ?_
      refine lv_icmp_ne (tgt := 697) hx hb dL_act_690 (by decide) (fun c_690 => ?_) (fun c_690 => ?_)
      · exact absurd rfl c_690
      refine lv_iconst (v := 1) hx hb dL_act_693 (by decide) ?_
      refine lv_goto (tgt := 698) hx hb dL_act_694 (by decide) ?_
      exact eX_z hx hb hr hlocks rfl (⟨rfl, S, C, T, nc, nt, f, g, rfl, G, rfl⟩) hP hD hS dL_act_698 (by decide) (by decide)
    ·
      refine lv_aload hx hb dL_act_593 (lv_at hl 0 rfl) ?_
      refine lv_iconst (v := 1) hx hb dL_act_595 (by decide) ?_
      refine w_ildM hx hb hK hP (List.mem_append_right _ (sm_c (by omega))) rfl 1 rfl (by decide) (by decide) (v := f (8 + 3 * i)) rfl dL_act_596 ?_
      refine lv_iload hx hb dL_act_597 (lv_at hl 1 rfl) ?_
      refine lv_iadd hx hb dL_act_599 ?_
      refine lv_bipush (v := 20) hx hb dL_act_600 (by decide) ?_
      refine lv_icmp_gt (tgt := 609) hx hb dL_act_602 (by decide) (fun c_602 => ?_) (fun c_602 => ?_)
      ·
        refine lv_iconst (v := 0) hx hb dL_act_609 (by decide) ?_
        refine lv_istore (lv' := [(8, .int 0), (7, .ref (C i)), (6, .int (nI m9)), (4, .int tv), (3, .int (nI i)), (2, .int u), (1, .ref (S 0)), (0, .ref x)]) hx hb dL_act_610 hl (by decide) rfl (fun ls hl => ?_)
        refine lv_iload hx hb dL_act_612 (lv_at hl 0 rfl) ?_
        refine lv_if_eq (tgt := 658) hx hb dL_act_614 (by decide) (fun c_614 => ?_) (fun c_614 => ?_)
        rotate_left
        · exact absurd rfl c_614
        refine lv_aload_n hx hb dL_act_658 rfl (lv_at hl 7 rfl) ?_
        refine lv_iload_n hx hb dL_act_659 rfl (lv_at hl 4 rfl) ?_
        refine lv_iload hx hb dL_act_660 (lv_at hl 2 rfl) ?_
        refine c1_V (As := [.int (nI i), .int (nI m9)]) (rest := []) (ws' := YW cI cC cT x A b0 nc nt (pourF f (nI i).toNatClampNeg (nI m9)) g ++ (SM cI cL S C T nc nt f g)) ⟨hx, hb, hml, hown, hts⟩ (mX3_pour l D cI cC cT cL hl0 x b0 A nc nt f g (nI i) (nI m9) hnc) (cwV 2 hts gL_act_X3_pour rfl rfl rfl pX3_pour ⟨Nat.le_of_ble_eq_true rfl, Nat.le_of_ble_eq_true rfl⟩) hK hP hD hS hA hST ((Jf_l _ (Jf_all _ _ yw_fst))).1 ((Jf_l _ (Jf_all _ _ yw_fst))).1 0 rfl rfl rfl rfl hl.1 rfl (Nat.le_of_ble_eq_true rfl) dL_act_662 ⟨Nat.le_of_ble_eq_true rfl, Nat.le_of_ble_eq_true rfl⟩ rfl (fun E ce q9 H locs hE hP hS h1 h2 h3 => ?_) (fun hok H locs hP hD hS => ?_)
        rotate_left
        · exact absurd hok (by rw [(k_pour3 hnc hi9 hm1 hm3 (Or.inr c_602))]; decide)
        have eE : E = ISE := xe_3 (k_pour3 hnc hi9 hm1 hm3 (Or.inr c_602)) hE
        subst eE
        refine vx_catch hown [⟨508, 519, 522, 59⟩] ⟨658, 667, 670, 59⟩ [⟨814, 823, 826, 59⟩] (htab.trans rfl) (fun z hz => by rw [List.mem_singleton.mp hz]; exact Or.inl (by decide)) (by decide) (by decide) (hts _ clL_act_59) (va_Nw.use rfl (hST.2.2.2.2.1 _ (by simp [CA]))) h1 h2 h3 ?_
        refine lv_astore (lv' := [(9, .ref q9), (8, .int 0), (7, .ref (C i)), (6, .int (nI m9)), (4, .int tv), (3, .int (nI i)), (2, .int u), (1, .ref (S 0)), (0, .ref x)]) hx hb dL_act_670 hl (by decide) rfl (fun ls hl => ?_)
        refine lv_iconst (v := (-1)) hx hb dL_act_672 (by decide) ?_
        refine lv_istore (lv' := [(5, .int (-1)), (9, .ref q9), (8, .int 0), (7, .ref (C i)), (6, .int (nI m9)), (4, .int tv), (3, .int (nI i)), (2, .int u), (1, .ref (S 0)), (0, .ref x)]) hx hb dL_act_673 hl (by decide) rfl (fun ls hl => ?_)
        refine lv_iload hx hb dL_act_675 (lv_at hl 0 rfl) ?_
        refine lv_iload hx hb dL_act_677 (lv_at hl 2 rfl) ?_
        refine lv_if_eq (tgt := 689) hx hb dL_act_679 (by decide) (fun c_679 => ?_) (fun c_679 => ?_)
        rotate_left
        · exact absurd rfl c_679
        refine lv_iconst (v := (-1)) hx hb dL_act_689 (by decide) ?_
        refine lv_icmp_ne (tgt := 697) hx hb dL_act_690 (by decide) (fun c_690 => ?_) (fun c_690 => ?_)
        · exact absurd rfl c_690
        refine lv_iconst (v := 1) hx hb dL_act_693 (by decide) ?_
        refine lv_goto (tgt := 698) hx hb dL_act_694 (by decide) ?_
        exact eX_z hx hb hr hlocks rfl (⟨rfl, S, C, T, nc, nt, f, g, rfl, G, rfl⟩) hP hD hS dL_act_698 (by decide) (by decide)
      ·
        refine lv_iconst (v := 1) hx hb dL_act_605 (by decide) ?_
        refine lv_goto (tgt := 610) hx hb dL_act_606 (by decide) ?_
        refine lv_istore (lv' := [(8, .int 1), (7, .ref (C i)), (6, .int (nI m9)), (4, .int tv), (3, .int (nI i)), (2, .int u), (1, .ref (S 0)), (0, .ref x)]) hx hb dL_act_610 hl (by decide) rfl (fun ls hl => ?_)
        refine lv_iload hx hb dL_act_612 (lv_at hl 0 rfl) ?_
        refine lv_if_eq (tgt := 658) hx hb dL_act_614 (by decide) (fun c_614 => ?_) (fun c_614 => ?_)
        · exact absurd c_614 (by decide)
        refine lv_aload_n hx hb dL_act_617 rfl (lv_at hl 6 rfl) ?_
        refine w_getM hx hb hts iL_act_X4 hown hK hP (List.mem_append_right _ (sm_b 0 rfl)) rfl 1 (by decide) fL_act_24 rfl rfl (v := .ref (S 1)) dL_act_618 ?_
        refine lv_iconst (v := 2) hx hb dL_act_621 (by decide) ?_
        refine lv_dup2_11 hx hb dL_act_622 rfl rfl ?_
        refine w_ildM hx hb hK hP (List.mem_append_right _ (sm_b 1 rfl)) rfl 2 rfl (by decide) (by decide) (v := f 3) rfl dL_act_623 ?_
        refine lv_iload hx hb dL_act_624 (lv_at hl 2 rfl) ?_
        refine lv_isub hx hb dL_act_626 ?_
        refine w_istJ (ws' := YW cI cC cT x A b0 nc nt f g ++ (SM cI cL S C T nc nt (upd f 3 ((f 3) - (nI m9))) g)) hx hb hK hP hD hS 2 (Jf_r _ (J_store 2 (by decide) ((f 3) - (nI m9)))) rfl rfl (by decide) (by decide) dL_act_627 (fun H locs hP hD hS => ?_)
        refine lv_aload hx hb dL_act_628 (lv_at hl 1 rfl) ?_
        refine lv_iconst (v := 2) hx hb dL_act_630 (by decide) ?_
        refine lv_aload hx hb dL_act_631 (lv_at hl 1 rfl) ?_
        refine lv_iconst (v := 2) hx hb dL_act_633 (by decide) ?_
        refine w_ildM hx hb hK hP (List.mem_append_right _ (sm_c (by omega))) rfl 2 rfl (by decide) (by decide) (v := f (9 + 3 * i)) (show (upd f 3 ((f 3) - (nI m9))) (9 + 3 * i) = f (9 + 3 * i) from (up_o (by omega))) dL_act_634 ?_
        refine lv_aload hx hb dL_act_635 (lv_at hl 1 rfl) ?_
        refine lv_iconst (v := 1) hx hb dL_act_637 (by decide) ?_
        refine w_ildM hx hb hK hP (List.mem_append_right _ (sm_c (by omega))) rfl 1 rfl (by decide) (by decide) (v := f (8 + 3 * i)) (show (upd f 3 ((f 3) - (nI m9))) (8 + 3 * i) = f (8 + 3 * i) from (up_o (by omega))) dL_act_638 ?_
        refine lv_imul hx hb dL_act_639 ?_
        refine lv_aload hx hb dL_act_640 (lv_at hl 1 rfl) ?_
        refine lv_iconst (v := 1) hx hb dL_act_642 (by decide) ?_
        refine w_ildM hx hb hK hP (List.mem_append_right _ (sm_c (by omega))) rfl 1 rfl (by decide) (by decide) (v := f (8 + 3 * i)) (show (upd f 3 ((f 3) - (nI m9))) (8 + 3 * i) = f (8 + 3 * i) from (up_o (by omega))) dL_act_643 ?_
        refine lv_iload hx hb dL_act_644 (lv_at hl 2 rfl) ?_
        refine lv_iadd hx hb dL_act_646 ?_
        refine lv_idiv hx hb dL_act_647 (po_n (hI.2.1 i (by omega)).2.1 hm1 hm3) ?_
        refine w_istJ (ws' := YW cI cC cT x A b0 nc nt f g ++ (SM cI cL S C T nc nt (set3 (upd f 3 ((f 3) - (nI m9))) (7 + 3 * i) (f (7 + 3 * i)) (f (8 + 3 * i)) (((f (9 + 3 * i)) * (f (8 + 3 * i))) / ((f (8 + 3 * i)) + (nI m9)))) g)) hx hb hK hP hD hS 2 (Jf_r _ (J_cw2 hnc (by omega) (((f (9 + 3 * i)) * (f (8 + 3 * i))) / ((f (8 + 3 * i)) + (nI m9))) (show (upd f 3 ((f 3) - (nI m9))) (7 + 3 * i) = f (7 + 3 * i) from (up_o (by omega))) (show (upd f 3 ((f 3) - (nI m9))) (8 + 3 * i) = f (8 + 3 * i) from (up_o (by omega))))) rfl rfl (by decide) (by decide) dL_act_648 (fun H locs hP hD hS => ?_)
        refine lv_aload hx hb dL_act_649 (lv_at hl 1 rfl) ?_
        refine lv_iconst (v := 1) hx hb dL_act_651 (by decide) ?_
        refine lv_dup2_11 hx hb dL_act_652 rfl rfl ?_
        refine w_ildM hx hb hK hP (List.mem_append_right _ (sm_c (by omega))) rfl 1 rfl (by decide) (by decide) (v := f (8 + 3 * i)) (show (set3 (upd f 3 ((f 3) - (nI m9))) (7 + 3 * i) (f (7 + 3 * i)) (f (8 + 3 * i)) (((f (9 + 3 * i)) * (f (8 + 3 * i))) / ((f (8 + 3 * i)) + (nI m9)))) (8 + 3 * i) = f (8 + 3 * i) from (s7_1)) dL_act_653 ?_
        refine lv_iload hx hb dL_act_654 (lv_at hl 2 rfl) ?_
        refine lv_iadd hx hb dL_act_656 ?_
        refine w_istJ (ws' := YW cI cC cT x A b0 nc nt f g ++ (SM cI cL S C T nc nt (set3 (upd f 3 ((f 3) - (nI m9))) (7 + 3 * i) (f (7 + 3 * i)) ((f (8 + 3 * i)) + (nI m9)) (((f (9 + 3 * i)) * (f (8 + 3 * i))) / ((f (8 + 3 * i)) + (nI m9)))) g)) hx hb hK hP hD hS 1 (Jf_r _ (J_c1 hnc (by omega) ((f (8 + 3 * i)) + (nI m9)))) rfl rfl (by decide) (by decide) dL_act_657 (fun H locs hP hD hS => ?_)
        refine lv_aload_n hx hb dL_act_658 rfl (lv_at hl 7 rfl) ?_
        refine lv_iload_n hx hb dL_act_659 rfl (lv_at hl 4 rfl) ?_
        refine lv_iload hx hb dL_act_660 (lv_at hl 2 rfl) ?_
        refine c1_V (As := [.int (nI i), .int (nI m9)]) (rest := []) (ws' := YW cI cC cT x A b0 nc nt (pourF f (nI i).toNatClampNeg (nI m9)) g ++ (SM cI cL S C T nc nt (set3 (upd f 3 ((f 3) - (nI m9))) (7 + 3 * i) (f (7 + 3 * i)) ((f (8 + 3 * i)) + (nI m9)) (((f (9 + 3 * i)) * (f (8 + 3 * i))) / ((f (8 + 3 * i)) + (nI m9)))) g)) ⟨hx, hb, hml, hown, hts⟩ (mX3_pour l D cI cC cT cL hl0 x b0 A nc nt f g (nI i) (nI m9) hnc) (cwV 2 hts gL_act_X3_pour rfl rfl rfl pX3_pour ⟨Nat.le_of_ble_eq_true rfl, Nat.le_of_ble_eq_true rfl⟩) hK hP hD hS hA hST ((Jf_l _ (Jf_all _ _ yw_fst))).1 ((Jf_l _ (Jf_all _ _ yw_fst))).1 0 rfl rfl rfl rfl hl.1 rfl (Nat.le_of_ble_eq_true rfl) dL_act_662 ⟨Nat.le_of_ble_eq_true rfl, Nat.le_of_ble_eq_true rfl⟩ rfl (fun E ce q9 H locs hE hP hS h1 h2 h3 => ?_) (fun hok H locs hP hD hS => ?_)
        · exact absurd hE (xe_no (k_pour0 hnc hi9 hm1 hm3 c_590 c_602) E)
        rw [nI_clamp (n := i) (by omega)] at hP hD ⊢
        refine lv_istore (lv' := [(5, .int (pourF f i (nI m9) (9 + 3 * i))), (8, .int 1), (7, .ref (C i)), (6, .int (nI m9)), (4, .int tv), (3, .int (nI i)), (2, .int u), (1, .ref (S 0)), (0, .ref x)]) hx hb dL_act_665 hl (by decide) rfl (fun ls hl => ?_)
        refine lv_goto (tgt := 675) hx hb dL_act_667 (by decide) ?_
        refine lv_iload hx hb dL_act_675 (lv_at hl 0 rfl) ?_
        refine lv_iload hx hb dL_act_677 (lv_at hl 1 rfl) ?_
        refine lv_if_eq (tgt := 689) hx hb dL_act_679 (by decide) (fun c_679 => ?_) (fun c_679 => ?_)
        · exact absurd c_679 (by decide)
        refine lv_aload hx hb dL_act_682 (lv_at hl 2 rfl) ?_
        refine lv_iconst (v := 2) hx hb dL_act_684 (by decide) ?_
        refine w_ildM hx hb hK hP (List.mem_append_right _ (sm_c (by omega))) rfl 2 rfl (by decide) (by decide) (v := ((f (9 + 3 * i)) * (f (8 + 3 * i))) / ((f (8 + 3 * i)) + (nI m9))) (show (set3 (upd f 3 ((f 3) - (nI m9))) (7 + 3 * i) (f (7 + 3 * i)) ((f (8 + 3 * i)) + (nI m9)) (((f (9 + 3 * i)) * (f (8 + 3 * i))) / ((f (8 + 3 * i)) + (nI m9)))) (9 + 3 * i) = ((f (9 + 3 * i)) * (f (8 + 3 * i))) / ((f (8 + 3 * i)) + (nI m9)) from (s7_2)) dL_act_685 ?_
        refine lv_goto (tgt := 690) hx hb dL_act_686 (by decide) ?_
        refine lv_icmp_ne (tgt := 697) hx hb dL_act_690 (by decide) (fun c_690 => ?_) (fun c_690 => ?_)
        · exact absurd (po_v (po_n (hI.2.1 i (by omega)).2.1 hm1 hm3)) c_690
        refine lv_iconst (v := 1) hx hb dL_act_693 (by decide) ?_
        refine lv_goto (tgt := 698) hx hb dL_act_694 (by decide) ?_
        have eT := po_f (po_n (hI.2.1 i (by omega)).2.1 hm1 hm3)
        have hP := P_eq (congrArg (fun F9 => YW cI cC cT x A b0 nc nt (pourF f i (nI m9)) g ++ (SM cI cL S C T nc nt F9 g)) eT) hP
        have hD := D_eq (congrArg (fun F9 => YW cI cC cT x A b0 nc nt (pourF f i (nI m9)) g ++ (SM cI cL S C T nc nt F9 g)) eT) hD
        exact eX_z hx hb hr hlocks rfl (⟨rfl, S, C, T, nc, nt, _, g, rfl, g_pour m9 hi9 hm1 hm3 c_590 c_602 G, rfl⟩) hP hD hS dL_act_698 (by decide) (by decide)
  ·
    refine lv_iconst (v := 1) hx hb dL_act_559 (by decide) ?_
    exact eX_z hx hb hr hlocks rfl (⟨rfl, S, C, T, nc, nt, f, g, rfl, G, rfl⟩) hP hD hS dL_act_560 (by decide) (by decide)

set_option maxHeartbeats 4000000 in
set_option maxRecDepth 100000 in
theorem act_scoop {p : Program} {l : Launch} {e : Env} {s : State} {m : MethodId} {args : Array Value} {below : List Frame} {meth : Method} {c : Code} {A0 : Nat → Prop} {D : va_G} {cI cC cT cL : ClassId} {x b0 : Nat} {A S C T : Nat → Nat} {nc nt h : Nat} {f g : Nat → Int32} {u cv tv : Int32} {H : Heap} {locs : List Loc} {ls : Array Slot} (EA : AE p l s m meth c args A0 D cI cC cT cL) (G : GS2 nc nt f g h) (hcv : (nc = 0 ∧ cv = -1) ∨ ∃ i, i < nc ∧ cv = nI i) (htv : (nt = 0 ∧ tv = -1) ∨ ∃ i, i < nt ∧ tv = nI i) (hP : va_P D vwCl (YW cI cC cT x A b0 nc nt f g ++ (SM cI cL S C T nc nt f g)) H) (hD : va_D A0 (YW cI cC cT x A b0 nc nt f g ++ (SM cI cL S C T nc nt f g))) (hS : va_S A0 s.heap H locs) (hl : lv_has ls 10 [(4, .int tv), (3, .int cv), (2, .int u), (1, .ref (S 0)), (0, .ref x)]) : W p l e ({ frames := 8, cells := 20, slots := 200, locals := 150 } : Room) s m args below meth c H locs 0 0 (QX below D (actB cI cC cT cL x A b0 S h) A0 args s 20 200) (F0 m 699 ls []) := by
  obtain ⟨hx, hb, hml, hr, hown, hts, hlocks, hK, hA, hST, htab, hl0⟩ := id EA
  obtain ⟨⟨hnc, hnt, hI, hg, h0⟩, hz, hxc, hxt⟩ := id G
  have hAA : va_AOA .int s := hST.2.2.2.2.2.2.2.2.2.1
  refine lv_iload_n hx hb dL_act_699 rfl (lv_at hl 1 rfl) ?_
  refine lv_if_lt (tgt := 708) hx hb dL_act_700 (by decide) (fun c_700 => ?_) (fun c_700 => ?_)
  ·
    refine lv_iconst (v := 1) hx hb dL_act_708 (by decide) ?_
    exact eX_z hx hb hr hlocks rfl (⟨rfl, S, C, T, nc, nt, f, g, rfl, G, rfl⟩) hP hD hS dL_act_709 (by decide) (by decide)
  ·
    refine lv_iload hx hb dL_act_703 (lv_at hl 0 rfl) ?_
    refine lv_if_ge (tgt := 710) hx hb dL_act_705 (by decide) (fun c_705 => ?_) (fun c_705 => ?_)
    ·
      obtain ⟨i, hi9, ei⟩ := c_of (by omega) hcv (Int32.not_lt.mp c_700)
      subst ei
      obtain ⟨t, ht9, et⟩ := c_of (by omega) htv c_705
      subst et
      refine lv_aload_n hx hb dL_act_710 rfl (lv_at hl 3 rfl) ?_
      refine w_getM hx hb hts iL_act_X4 hown hK hP (List.mem_append_right _ (sm_b 0 rfl)) rfl 5 (by decide) fL_act_9 rfl rfl (v := .ref (S 3)) dL_act_711 ?_
      refine lv_iload_n hx hb dL_act_714 rfl (lv_at hl 1 rfl) ?_
      refine w_qldA hx hb hK hP (List.mem_append_right _ (sm_b 3 rfl)) rfl i rfl (by omega) (by omega) (v := C i) rfl dL_act_715 ?_
      refine lv_astore (lv' := [(6, .ref (C i)), (4, .int (nI t)), (3, .int (nI i)), (2, .int u), (1, .ref (S 0)), (0, .ref x)]) hx hb dL_act_716 hl (by decide) rfl (fun ls hl => ?_)
      refine lv_aload hx hb dL_act_718 (lv_at hl 0 rfl) ?_
      refine lv_iconst (v := 1) hx hb dL_act_720 (by decide) ?_
      refine w_ildM hx hb hK hP (List.mem_append_right _ (sm_c (by omega))) rfl 1 rfl (by decide) (by decide) (v := f (8 + 3 * i)) rfl dL_act_721 ?_
      refine lv_if_le (tgt := 738) hx hb dL_act_722 (by decide) (fun c_722 => ?_) (fun c_722 => ?_)
      ·
        refine lv_iconst (v := 0) hx hb dL_act_738 (by decide) ?_
        refine lv_istore (lv' := [(7, .int 0), (6, .ref (C i)), (4, .int (nI t)), (3, .int (nI i)), (2, .int u), (1, .ref (S 0)), (0, .ref x)]) hx hb dL_act_739 hl (by decide) rfl (fun ls hl => ?_)
        refine lv_iload hx hb dL_act_741 (lv_at hl 0 rfl) ?_
        refine lv_if_eq (tgt := 814) hx hb dL_act_743 (by decide) (fun c_743 => ?_) (fun c_743 => ?_)
        rotate_left
        · exact absurd rfl c_743
        refine lv_aload_n hx hb dL_act_814 rfl (lv_at hl 6 rfl) ?_
        refine lv_iload_n hx hb dL_act_815 rfl (lv_at hl 3 rfl) ?_
        refine lv_iload hx hb dL_act_816 (lv_at hl 2 rfl) ?_
        refine c1_V (As := [.int (nI i), .int (nI t)]) (rest := []) (ws' := YW cI cC cT x A b0 nc nt (scoopF f (nI i).toNatClampNeg (nI t).toNatClampNeg) g ++ (SM cI cL S C T nc nt f g)) ⟨hx, hb, hml, hown, hts⟩ (mX3_scoop l D cI cC cT cL hl0 x b0 A nc nt f g (nI i) (nI t) hnc hnt) (cwV 2 hts gL_act_X3_scoop rfl rfl rfl pX3_scoop ⟨Nat.le_of_ble_eq_true rfl, Nat.le_of_ble_eq_true rfl⟩) hK hP hD hS hA hST ((Jf_l _ (Jf_all _ _ yw_fst))).1 ((Jf_l _ (Jf_all _ _ yw_fst))).1 0 rfl rfl rfl rfl hl.1 rfl (Nat.le_of_ble_eq_true rfl) dL_act_818 ⟨Nat.le_of_ble_eq_true rfl, Nat.le_of_ble_eq_true rfl⟩ rfl (fun E ce q9 H locs hE hP hS h1 h2 h3 => ?_) (fun hok H locs hP hD hS => ?_)
        rotate_left
        · exact absurd hok (by rw [(k_scoop2 hnc hnt hi9 ht9 (hI.2.1 i (by omega)).2.1 (Or.inl c_722))]; decide)
        have eE : E = ISE := xe_2 (k_scoop2 hnc hnt hi9 ht9 (hI.2.1 i (by omega)).2.1 (Or.inl c_722)) hE
        subst eE
        refine vx_catch hown [⟨508, 519, 522, 59⟩, ⟨658, 667, 670, 59⟩] ⟨814, 823, 826, 59⟩ [] (htab.trans rfl) (fun z hz => by exact (List.mem_cons.mp hz).elim (fun hz => by rw [hz]; exact Or.inl (by decide)) (fun hz => by rw [List.mem_singleton.mp hz]; exact Or.inl (by decide))) (by decide) (by decide) (hts _ clL_act_59) (va_Nw.use rfl (hST.2.2.2.2.1 _ (by simp [CA]))) h1 h2 h3 ?_
        refine lv_astore (lv' := [(8, .ref q9), (7, .int 0), (6, .ref (C i)), (4, .int (nI t)), (3, .int (nI i)), (2, .int u), (1, .ref (S 0)), (0, .ref x)]) hx hb dL_act_826 hl (by decide) rfl (fun ls hl => ?_)
        refine lv_iconst (v := (-1)) hx hb dL_act_828 (by decide) ?_
        refine lv_istore (lv' := [(5, .int (-1)), (8, .ref q9), (7, .int 0), (6, .ref (C i)), (4, .int (nI t)), (3, .int (nI i)), (2, .int u), (1, .ref (S 0)), (0, .ref x)]) hx hb dL_act_829 hl (by decide) rfl (fun ls hl => ?_)
        refine lv_iload hx hb dL_act_831 (lv_at hl 0 rfl) ?_
        refine lv_iload hx hb dL_act_833 (lv_at hl 2 rfl) ?_
        refine lv_if_eq (tgt := 850) hx hb dL_act_835 (by decide) (fun c_835 => ?_) (fun c_835 => ?_)
        rotate_left
        · exact absurd rfl c_835
        refine lv_iconst (v := (-1)) hx hb dL_act_850 (by decide) ?_
        refine lv_icmp_ne (tgt := 858) hx hb dL_act_851 (by decide) (fun c_851 => ?_) (fun c_851 => ?_)
        · exact absurd rfl c_851
        refine lv_iconst (v := 1) hx hb dL_act_854 (by decide) ?_
        refine lv_goto (tgt := 859) hx hb dL_act_855 (by decide) ?_
        exact eX_z hx hb hr hlocks rfl (⟨rfl, S, C, T, nc, nt, f, g, rfl, G, rfl⟩) hP hD hS dL_act_859 (by decide) (by decide)
      ·
        refine lv_aload hx hb dL_act_725 (lv_at hl 0 rfl) ?_
        refine lv_iconst (v := 2) hx hb dL_act_727 (by decide) ?_
        refine w_ildM hx hb hK hP (List.mem_append_right _ (sm_c (by omega))) rfl 2 rfl (by decide) (by decide) (v := f (9 + 3 * i)) rfl dL_act_728 ?_
        refine lv_bipush (v := 50) hx hb dL_act_729 (by decide) ?_
        refine lv_icmp_lt (tgt := 738) hx hb dL_act_731 (by decide) (fun c_731 => ?_) (fun c_731 => ?_)
        ·
          refine lv_iconst (v := 0) hx hb dL_act_738 (by decide) ?_
          refine lv_istore (lv' := [(7, .int 0), (6, .ref (C i)), (4, .int (nI t)), (3, .int (nI i)), (2, .int u), (1, .ref (S 0)), (0, .ref x)]) hx hb dL_act_739 hl (by decide) rfl (fun ls hl => ?_)
          refine lv_iload hx hb dL_act_741 (lv_at hl 0 rfl) ?_
          refine lv_if_eq (tgt := 814) hx hb dL_act_743 (by decide) (fun c_743 => ?_) (fun c_743 => ?_)
          rotate_left
          · exact absurd rfl c_743
          refine lv_aload_n hx hb dL_act_814 rfl (lv_at hl 6 rfl) ?_
          refine lv_iload_n hx hb dL_act_815 rfl (lv_at hl 3 rfl) ?_
          refine lv_iload hx hb dL_act_816 (lv_at hl 2 rfl) ?_
          refine c1_V (As := [.int (nI i), .int (nI t)]) (rest := []) (ws' := YW cI cC cT x A b0 nc nt (scoopF f (nI i).toNatClampNeg (nI t).toNatClampNeg) g ++ (SM cI cL S C T nc nt f g)) ⟨hx, hb, hml, hown, hts⟩ (mX3_scoop l D cI cC cT cL hl0 x b0 A nc nt f g (nI i) (nI t) hnc hnt) (cwV 2 hts gL_act_X3_scoop rfl rfl rfl pX3_scoop ⟨Nat.le_of_ble_eq_true rfl, Nat.le_of_ble_eq_true rfl⟩) hK hP hD hS hA hST ((Jf_l _ (Jf_all _ _ yw_fst))).1 ((Jf_l _ (Jf_all _ _ yw_fst))).1 0 rfl rfl rfl rfl hl.1 rfl (Nat.le_of_ble_eq_true rfl) dL_act_818 ⟨Nat.le_of_ble_eq_true rfl, Nat.le_of_ble_eq_true rfl⟩ rfl (fun E ce q9 H locs hE hP hS h1 h2 h3 => ?_) (fun hok H locs hP hD hS => ?_)
          rotate_left
          · exact absurd hok (by rw [(k_scoop2 hnc hnt hi9 ht9 (hI.2.1 i (by omega)).2.1 (Or.inr c_731))]; decide)
          have eE : E = ISE := xe_2 (k_scoop2 hnc hnt hi9 ht9 (hI.2.1 i (by omega)).2.1 (Or.inr c_731)) hE
          subst eE
          refine vx_catch hown [⟨508, 519, 522, 59⟩, ⟨658, 667, 670, 59⟩] ⟨814, 823, 826, 59⟩ [] (htab.trans rfl) (fun z hz => by exact (List.mem_cons.mp hz).elim (fun hz => by rw [hz]; exact Or.inl (by decide)) (fun hz => by rw [List.mem_singleton.mp hz]; exact Or.inl (by decide))) (by decide) (by decide) (hts _ clL_act_59) (va_Nw.use rfl (hST.2.2.2.2.1 _ (by simp [CA]))) h1 h2 h3 ?_
          refine lv_astore (lv' := [(8, .ref q9), (7, .int 0), (6, .ref (C i)), (4, .int (nI t)), (3, .int (nI i)), (2, .int u), (1, .ref (S 0)), (0, .ref x)]) hx hb dL_act_826 hl (by decide) rfl (fun ls hl => ?_)
          refine lv_iconst (v := (-1)) hx hb dL_act_828 (by decide) ?_
          refine lv_istore (lv' := [(5, .int (-1)), (8, .ref q9), (7, .int 0), (6, .ref (C i)), (4, .int (nI t)), (3, .int (nI i)), (2, .int u), (1, .ref (S 0)), (0, .ref x)]) hx hb dL_act_829 hl (by decide) rfl (fun ls hl => ?_)
          refine lv_iload hx hb dL_act_831 (lv_at hl 0 rfl) ?_
          refine lv_iload hx hb dL_act_833 (lv_at hl 2 rfl) ?_
          refine lv_if_eq (tgt := 850) hx hb dL_act_835 (by decide) (fun c_835 => ?_) (fun c_835 => ?_)
          rotate_left
          · exact absurd rfl c_835
          refine lv_iconst (v := (-1)) hx hb dL_act_850 (by decide) ?_
          refine lv_icmp_ne (tgt := 858) hx hb dL_act_851 (by decide) (fun c_851 => ?_) (fun c_851 => ?_)
          · exact absurd rfl c_851
          refine lv_iconst (v := 1) hx hb dL_act_854 (by decide) ?_
          refine lv_goto (tgt := 859) hx hb dL_act_855 (by decide) ?_
          exact eX_z hx hb hr hlocks rfl (⟨rfl, S, C, T, nc, nt, f, g, rfl, G, rfl⟩) hP hD hS dL_act_859 (by decide) (by decide)
        ·
          refine lv_iconst (v := 1) hx hb dL_act_734 (by decide) ?_
          refine lv_goto (tgt := 739) hx hb dL_act_735 (by decide) ?_
          refine lv_istore (lv' := [(7, .int 1), (6, .ref (C i)), (4, .int (nI t)), (3, .int (nI i)), (2, .int u), (1, .ref (S 0)), (0, .ref x)]) hx hb dL_act_739 hl (by decide) rfl (fun ls hl => ?_)
          refine lv_iload hx hb dL_act_741 (lv_at hl 0 rfl) ?_
          refine lv_if_eq (tgt := 814) hx hb dL_act_743 (by decide) (fun c_743 => ?_) (fun c_743 => ?_)
          · exact absurd c_743 (by decide)
          refine lv_aload_n hx hb dL_act_746 rfl (lv_at hl 5 rfl) ?_
          refine w_getM hx hb hts iL_act_X4 hown hK hP (List.mem_append_right _ (sm_b 0 rfl)) rfl 6 (by decide) fL_act_21 rfl rfl (v := .ref (S 4)) dL_act_747 ?_
          refine lv_iload hx hb dL_act_750 (lv_at hl 2 rfl) ?_
          refine w_qldA hx hb hK hP (List.mem_append_right _ (sm_b 4 rfl)) rfl t rfl (by omega) (by omega) (v := T t) rfl dL_act_752 ?_
          refine lv_iconst (v := 0) hx hb dL_act_753 (by decide) ?_
          refine lv_bipush (v := 60) hx hb dL_act_754 (by decide) ?_
          refine lv_aload_n hx hb dL_act_756 rfl (lv_at hl 5 rfl) ?_
          refine w_getM hx hb hts iL_act_X4 hown hK hP (List.mem_append_right _ (sm_b 0 rfl)) rfl 6 (by decide) fL_act_21 rfl rfl (v := .ref (S 4)) dL_act_757 ?_
          refine lv_iload hx hb dL_act_760 (lv_at hl 2 rfl) ?_
          refine w_qldA hx hb hK hP (List.mem_append_right _ (sm_b 4 rfl)) rfl t rfl (by omega) (by omega) (v := T t) rfl dL_act_762 ?_
          refine lv_iconst (v := 0) hx hb dL_act_763 (by decide) ?_
          refine w_ildM hx hb hK hP (List.mem_append_right _ (sm_t (by omega))) rfl 0 rfl (by decide) (by decide) (v := f (19 + 3 * t)) rfl dL_act_764 ?_
          refine lv_iconst (v := 2) hx hb dL_act_765 (by decide) ?_
          refine lv_aload hx hb dL_act_766 (lv_at hl 1 rfl) ?_
          refine lv_iconst (v := 1) hx hb dL_act_768 (by decide) ?_
          refine w_ildM hx hb hK hP (List.mem_append_right _ (sm_c (by omega))) rfl 1 rfl (by decide) (by decide) (v := f (8 + 3 * i)) rfl dL_act_769 ?_
          refine lv_imul hx hb dL_act_770 ?_
          refine lv_iadd hx hb dL_act_771 ?_
          refine w_mmin hx hb (hml.trans hl.1.symm) hown (hts _ mlL_act_28) (hts _ msL_act_min) (hts _ miL_act) (hts _ mcL_act_min) (Nat.le_of_ble_eq_true rfl) (Nat.le_of_ble_eq_true rfl) (Nat.le_of_ble_eq_true rfl) (Nat.le_of_ble_eq_true rfl) dL_act_772 ?_
          refine w_istJ (ws' := YW cI cC cT x A b0 nc nt f g ++ (SM cI cL S C T nc nt (set3 f (19 + 3 * t) (imn 60 ((f (19 + 3 * t)) + (2 * (f (8 + 3 * i))))) (f (20 + 3 * t)) (f (21 + 3 * t))) g)) hx hb hK hP hD hS 0 (Jf_r _ (J_tw0 hnc (by omega) (imn 60 ((f (19 + 3 * t)) + (2 * (f (8 + 3 * i))))) rfl rfl)) rfl rfl (by decide) (by decide) dL_act_775 (fun H locs hP hD hS => ?_)
          refine lv_aload_n hx hb dL_act_776 rfl (lv_at hl 5 rfl) ?_
          refine w_getM hx hb hts iL_act_X4 hown hK hP (List.mem_append_right _ (sm_b 0 rfl)) rfl 6 (by decide) fL_act_21 rfl rfl (v := .ref (S 4)) dL_act_777 ?_
          refine lv_iload hx hb dL_act_780 (lv_at hl 2 rfl) ?_
          refine w_qldA hx hb hK hP (List.mem_append_right _ (sm_b 4 rfl)) rfl t rfl (by omega) (by omega) (v := T t) rfl dL_act_782 ?_
          refine lv_iconst (v := 1) hx hb dL_act_783 (by decide) ?_
          refine lv_aload_n hx hb dL_act_784 rfl (lv_at hl 5 rfl) ?_
          refine w_getM hx hb hts iL_act_X4 hown hK hP (List.mem_append_right _ (sm_b 0 rfl)) rfl 6 (by decide) fL_act_21 rfl rfl (v := .ref (S 4)) dL_act_785 ?_
          refine lv_iload hx hb dL_act_788 (lv_at hl 2 rfl) ?_
          refine w_qldA hx hb hK hP (List.mem_append_right _ (sm_b 4 rfl)) rfl t rfl (by omega) (by omega) (v := T t) rfl dL_act_790 ?_
          refine lv_iconst (v := 1) hx hb dL_act_791 (by decide) ?_
          refine w_ildM hx hb hK hP (List.mem_append_right _ (sm_t (by omega))) rfl 1 rfl (by decide) (by decide) (v := f (20 + 3 * t)) (show (set3 f (19 + 3 * t) (imn 60 ((f (19 + 3 * t)) + (2 * (f (8 + 3 * i))))) (f (20 + 3 * t)) (f (21 + 3 * t))) (20 + 3 * t) = f (20 + 3 * t) from (s19_1)) dL_act_792 ?_
          refine lv_bipush (v := 100) hx hb dL_act_793 (by decide) ?_
          refine lv_aload hx hb dL_act_795 (lv_at hl 1 rfl) ?_
          refine lv_iconst (v := 2) hx hb dL_act_797 (by decide) ?_
          refine w_ildM hx hb hK hP (List.mem_append_right _ (sm_c (by omega))) rfl 2 rfl (by decide) (by decide) (v := f (9 + 3 * i)) (show (set3 f (19 + 3 * t) (imn 60 ((f (19 + 3 * t)) + (2 * (f (8 + 3 * i))))) (f (20 + 3 * t)) (f (21 + 3 * t))) (9 + 3 * i) = f (9 + 3 * i) from (s3_o (by omega))) dL_act_798 ?_
          refine lv_isub hx hb dL_act_799 ?_
          refine w_mmax hx hb (hml.trans hl.1.symm) hown (hts _ mlL_act_64) (hts _ msL_act_max) (hts _ miL_act) (hts _ mcL_act_max) (Nat.le_of_ble_eq_true rfl) (Nat.le_of_ble_eq_true rfl) (Nat.le_of_ble_eq_true rfl) (Nat.le_of_ble_eq_true rfl) dL_act_800 ?_
          refine w_istJ (ws' := YW cI cC cT x A b0 nc nt f g ++ (SM cI cL S C T nc nt (set3 f (19 + 3 * t) (imn 60 ((f (19 + 3 * t)) + (2 * (f (8 + 3 * i))))) (imx (f (20 + 3 * t)) (100 - (f (9 + 3 * i)))) (f (21 + 3 * t))) g)) hx hb hK hP hD hS 1 (Jf_r _ (J_t1 hnc (by omega) (imx (f (20 + 3 * t)) (100 - (f (9 + 3 * i)))))) rfl rfl (by decide) (by decide) dL_act_803 (fun H locs hP hD hS => ?_)
          refine lv_aload hx hb dL_act_804 (lv_at hl 1 rfl) ?_
          refine lv_iconst (v := 1) hx hb dL_act_806 (by decide) ?_
          refine lv_iconst (v := 0) hx hb dL_act_807 (by decide) ?_
          refine w_istJ (ws' := YW cI cC cT x A b0 nc nt f g ++ (SM cI cL S C T nc nt (set3 (set3 f (19 + 3 * t) (imn 60 ((f (19 + 3 * t)) + (2 * (f (8 + 3 * i))))) (imx (f (20 + 3 * t)) (100 - (f (9 + 3 * i)))) (f (21 + 3 * t))) (7 + 3 * i) (f (7 + 3 * i)) 0 (f (9 + 3 * i))) g)) hx hb hK hP hD hS 1 (Jf_r _ (J_cw1 hnc (by omega) 0 (show (set3 f (19 + 3 * t) (imn 60 ((f (19 + 3 * t)) + (2 * (f (8 + 3 * i))))) (imx (f (20 + 3 * t)) (100 - (f (9 + 3 * i)))) (f (21 + 3 * t))) (7 + 3 * i) = f (7 + 3 * i) from (s3_o (by omega))) (show (set3 f (19 + 3 * t) (imn 60 ((f (19 + 3 * t)) + (2 * (f (8 + 3 * i))))) (imx (f (20 + 3 * t)) (100 - (f (9 + 3 * i)))) (f (21 + 3 * t))) (9 + 3 * i) = f (9 + 3 * i) from (s3_o (by omega))))) rfl rfl (by decide) (by decide) dL_act_808 (fun H locs hP hD hS => ?_)
          refine lv_aload hx hb dL_act_809 (lv_at hl 1 rfl) ?_
          refine lv_iconst (v := 2) hx hb dL_act_811 (by decide) ?_
          refine lv_iconst (v := 0) hx hb dL_act_812 (by decide) ?_
          refine w_istJ (ws' := YW cI cC cT x A b0 nc nt f g ++ (SM cI cL S C T nc nt (set3 (set3 f (19 + 3 * t) (imn 60 ((f (19 + 3 * t)) + (2 * (f (8 + 3 * i))))) (imx (f (20 + 3 * t)) (100 - (f (9 + 3 * i)))) (f (21 + 3 * t))) (7 + 3 * i) (f (7 + 3 * i)) 0 0) g)) hx hb hK hP hD hS 2 (Jf_r _ (J_c2 hnc (by omega) 0)) rfl rfl (by decide) (by decide) dL_act_813 (fun H locs hP hD hS => ?_)
          refine lv_aload_n hx hb dL_act_814 rfl (lv_at hl 6 rfl) ?_
          refine lv_iload_n hx hb dL_act_815 rfl (lv_at hl 3 rfl) ?_
          refine lv_iload hx hb dL_act_816 (lv_at hl 2 rfl) ?_
          refine c1_V (As := [.int (nI i), .int (nI t)]) (rest := []) (ws' := YW cI cC cT x A b0 nc nt (scoopF f (nI i).toNatClampNeg (nI t).toNatClampNeg) g ++ (SM cI cL S C T nc nt (set3 (set3 f (19 + 3 * t) (imn 60 ((f (19 + 3 * t)) + (2 * (f (8 + 3 * i))))) (imx (f (20 + 3 * t)) (100 - (f (9 + 3 * i)))) (f (21 + 3 * t))) (7 + 3 * i) (f (7 + 3 * i)) 0 0) g)) ⟨hx, hb, hml, hown, hts⟩ (mX3_scoop l D cI cC cT cL hl0 x b0 A nc nt f g (nI i) (nI t) hnc hnt) (cwV 2 hts gL_act_X3_scoop rfl rfl rfl pX3_scoop ⟨Nat.le_of_ble_eq_true rfl, Nat.le_of_ble_eq_true rfl⟩) hK hP hD hS hA hST ((Jf_l _ (Jf_all _ _ yw_fst))).1 ((Jf_l _ (Jf_all _ _ yw_fst))).1 0 rfl rfl rfl rfl hl.1 rfl (Nat.le_of_ble_eq_true rfl) dL_act_818 ⟨Nat.le_of_ble_eq_true rfl, Nat.le_of_ble_eq_true rfl⟩ rfl (fun E ce q9 H locs hE hP hS h1 h2 h3 => ?_) (fun hok H locs hP hD hS => ?_)
          · exact absurd hE (xe_no (k_scoop0 hnc hnt hi9 ht9 c_722 c_731) E)
          rw [nI_clamp (n := i) (by omega), nI_clamp (n := t) (by omega)] at hP hD ⊢
          refine lv_istore (lv' := [(5, .int (scoopF f i t (19 + 3 * t))), (7, .int 1), (6, .ref (C i)), (4, .int (nI t)), (3, .int (nI i)), (2, .int u), (1, .ref (S 0)), (0, .ref x)]) hx hb dL_act_821 hl (by decide) rfl (fun ls hl => ?_)
          refine lv_goto (tgt := 831) hx hb dL_act_823 (by decide) ?_
          refine lv_iload hx hb dL_act_831 (lv_at hl 0 rfl) ?_
          refine lv_iload hx hb dL_act_833 (lv_at hl 1 rfl) ?_
          refine lv_if_eq (tgt := 850) hx hb dL_act_835 (by decide) (fun c_835 => ?_) (fun c_835 => ?_)
          · exact absurd c_835 (by decide)
          refine lv_aload_n hx hb dL_act_838 rfl (lv_at hl 6 rfl) ?_
          refine w_getM hx hb hts iL_act_X4 hown hK hP (List.mem_append_right _ (sm_b 0 rfl)) rfl 6 (by decide) fL_act_21 rfl rfl (v := .ref (S 4)) dL_act_839 ?_
          refine lv_iload hx hb dL_act_842 (lv_at hl 3 rfl) ?_
          refine w_qldA hx hb hK hP (List.mem_append_right _ (sm_b 4 rfl)) rfl t rfl (by omega) (by omega) (v := T t) rfl dL_act_844 ?_
          refine lv_iconst (v := 0) hx hb dL_act_845 (by decide) ?_
          refine w_ildM hx hb hK hP (List.mem_append_right _ (sm_t (by omega))) rfl 0 rfl (by decide) (by decide) (v := imn 60 ((f (19 + 3 * t)) + (2 * (f (8 + 3 * i))))) (show (set3 (set3 f (19 + 3 * t) (imn 60 ((f (19 + 3 * t)) + (2 * (f (8 + 3 * i))))) (imx (f (20 + 3 * t)) (100 - (f (9 + 3 * i)))) (f (21 + 3 * t))) (7 + 3 * i) (f (7 + 3 * i)) 0 0) (19 + 3 * t) = imn 60 ((f (19 + 3 * t)) + (2 * (f (8 + 3 * i)))) from (Eq.trans (s3_o (by omega)) (s19_0))) dL_act_846 ?_
          refine lv_goto (tgt := 851) hx hb dL_act_847 (by decide) ?_
          refine lv_icmp_ne (tgt := 858) hx hb dL_act_851 (by decide) (fun c_851 => ?_) (fun c_851 => ?_)
          · exact absurd (sc_v (by omega)) c_851
          refine lv_iconst (v := 1) hx hb dL_act_854 (by decide) ?_
          refine lv_goto (tgt := 859) hx hb dL_act_855 (by decide) ?_
          exact eX_z hx hb hr hlocks rfl (⟨rfl, S, C, T, nc, nt, scoopF f i t, g, rfl, g_scoop hi9 ht9 G, rfl⟩) hP hD hS dL_act_859 (by decide) (by decide)
    ·
      refine lv_iconst (v := 1) hx hb dL_act_708 (by decide) ?_
      exact eX_z hx hb hr hlocks rfl (⟨rfl, S, C, T, nc, nt, f, g, rfl, G, rfl⟩) hP hD hS dL_act_709 (by decide) (by decide)
