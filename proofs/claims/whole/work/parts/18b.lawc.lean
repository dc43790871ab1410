set_option maxHeartbeats 4000000 in
set_option maxRecDepth 100000 in
theorem law_bring {p : Program} {l : Launch} {e : Env} {s : State} {m : MethodId} {args : Array Value} {below : List Frame} {meth : Method} {c : Code} {Q : State → Prop} {A0 : Nat → Prop} {b L : Nat} {xs : Nat → Int32} {D : va_G} {cI cC cT cL : ClassId} {x : Nat} {A B : Nat → Nat} {ob : Nat} {M : Nat → Nat} {j h cells slots : Nat} {nc nt : Nat} {f g : Nat → Int32} {w : Nat → Int64} {nc2 nt2 : Nat} {f2 g2 : Nat → Int32} {th : Int32} {k : Nat → Int32} {H : Heap} {locs : List Loc} {ls : Array Slot} (EL : LE p l s m args c A0 b L xs D cI cC cT cL) (G : GS nc nt f g h) (hh : h < 2 ^ 28) (hcl : cells + 20 ≤ 601024) (hsl : slots + 200 ≤ 7293034) (hj : 4 * j + 4 ≤ L) (hL : L ≤ 2048) (kk : LK p l e s m args below meth c Q A0 b D cI cC cT cL x A B ob M j h cells slots) (hP : va_P D vwCl (LV cI cC cT cL x A B ob M nc nt f g w nc2 nt2 f2 g2 th nc nt f k g) H) (hD : va_D A0 (LV cI cC cT cL x A B ob M nc nt f g w nc2 nt2 f2 g2 th nc nt f k g)) (hS : va_S A0 s.heap H locs) (hl : lv_has ls 9 [(4, .int (nI (4 * j))), (3, .ref ob), (2, .ref (M 0)), (1, .ref x), (0, .ref b)]) : W p l e room_1 s m args below meth c H locs cells slots Q (F0 m 124 ls []) := by
  obtain ⟨hx, hb, hml, hown, hts, hK, hST, hX, hbl, hbA, hA, hl0⟩ := EL
  obtain ⟨u, hu9⟩ : ∃ u, u = xs (nI (4 * j) + 1).toNatClampNeg := ⟨_, rfl⟩
  obtain ⟨v, hv9⟩ : ∃ v, v = xs (nI (4 * j) + 2).toNatClampNeg := ⟨_, rfl⟩
  obtain ⟨z, hz9⟩ : ∃ z, z = xs (nI (4 * j) + 3).toNatClampNeg := ⟨_, rfl⟩
  have hin1 : vp_in (nI (4 * j) + 1) L := (nI_add (4 * j) 1).symm ▸ vp_in_nI (by omega) (by omega)
  have hin2 : vp_in (nI (4 * j) + 2) L := (nI_add (4 * j) 2).symm ▸ vp_in_nI (by omega) (by omega)
  have hin3 : vp_in (nI (4 * j) + 3) L := (nI_add (4 * j) 3).symm ▸ vp_in_nI (by omega) (by omega)
  refine lv_aload_n hx hb dL_law_124 rfl (lv_at hl 3 rfl) ?_
  refine lv_aload_n hx hb dL_law_125 rfl (lv_at hl 4 rfl) ?_
  refine lv_iload hx hb dL_law_126 (lv_at hl 0 rfl) ?_
  refine lv_iconst (v := 1) hx hb dL_law_128 (by decide) ?_
  refine lv_iadd hx hb dL_law_129 ?_
  refine va_sld hx hb hX hbl hbA hS hin1 dL_law_130 ?_
  rw [← hu9]
  refine lv_aload_n hx hb dL_law_131 rfl (lv_at hl 4 rfl) ?_
  refine lv_iload hx hb dL_law_132 (lv_at hl 0 rfl) ?_
  refine lv_iconst (v := 2) hx hb dL_law_134 (by decide) ?_
  refine lv_iadd hx hb dL_law_135 ?_
  refine va_sld hx hb hX hbl hbA hS hin2 dL_law_136 ?_
  rw [← hv9]
  refine lv_aload_n hx hb dL_law_137 rfl (lv_at hl 1 rfl) ?_
  refine c0_SW (As := [.ref x, .int u, .int v, .ref ob]) (rest := []) ⟨hx, hb, hml, hown, hts⟩ (wbring l D cI cC cT cL hl0 x (B 0) A nc nt f g ob w u v) (vx_cwSW 4 hts gL_law_L_bring rfl rfl rfl pL_bring ⟨Nat.le_of_ble_eq_true rfl, Nat.le_of_ble_eq_true rfl⟩) hK hP hD hS hA hST (J_o) rfl hl.1 rfl (Nat.le_of_ble_eq_true rfl) dL_law_138 ⟨(by show _ ≤ 601024; omega), (by show _ ≤ 7293034; omega)⟩ rfl (fun H locs hP hD hS => ?_)
  refine lv_istore (lv' := [(5, .int (nI (kBring u v))), (4, .int (nI (4 * j))), (3, .ref ob), (2, .ref (M 0)), (1, .ref x), (0, .ref b)]) hx hb dL_law_141 hl (by decide) rfl (fun ls hl => ?_)
  refine lv_aload_n hx hb dL_law_143 rfl (lv_at hl 3 rfl) ?_
  refine lv_aload_n hx hb dL_law_144 rfl (lv_at hl 5 rfl) ?_
  refine lv_iload hx hb dL_law_145 (lv_at hl 1 rfl) ?_
  refine lv_iconst (v := 1) hx hb dL_law_147 (by decide) ?_
  refine lv_iadd hx hb dL_law_148 ?_
  refine va_sld hx hb hX hbl hbA hS hin1 dL_law_149 ?_
  rw [← hu9]
  refine lv_aload_n hx hb dL_law_150 rfl (lv_at hl 5 rfl) ?_
  refine lv_iload hx hb dL_law_151 (lv_at hl 1 rfl) ?_
  refine lv_iconst (v := 2) hx hb dL_law_153 (by decide) ?_
  refine lv_iadd hx hb dL_law_154 ?_
  refine va_sld hx hb hX hbl hbA hS hin2 dL_law_155 ?_
  rw [← hv9]
  refine c0_V (As := [.int u, .int v]) (rest := []) ⟨hx, hb, hml, hown, hts⟩ (mX4_bring l D cI cC cT cL M th nc nt f k g u v) (cwV 2 hts gL_law_X4_bring rfl rfl rfl pX4_bring ⟨Nat.le_of_ble_eq_true rfl, Nat.le_of_ble_eq_true rfl⟩) hK hP hD hS hA hST (J_m) 0 rfl rfl rfl rfl hl.1 rfl (Nat.le_of_ble_eq_true rfl) dL_law_156 ⟨(by show _ ≤ 601024; omega), (by show _ ≤ 7293034; omega)⟩ rfl (fun H locs hP hD hS => ?_)
  refine lv_istore (lv' := [(6, .int (sel (kBring u v) (bringF f u.toNatClampNeg v (u.toNatClampNeg + 1)) 0)), (5, .int (nI (kBring u v))), (4, .int (nI (4 * j))), (3, .ref ob), (2, .ref (M 0)), (1, .ref x), (0, .ref b)]) hx hb dL_law_159 hl (by decide) rfl (fun ls hl => ?_)
  refine lv_aload_n hx hb dL_law_161 rfl (lv_at hl 4 rfl) ?_
  refine c0_V (As := []) (rest := []) ⟨hx, hb, hml, hown, hts⟩ (mX4_thrown l D cI cC cT cL M (nI (kBring u v)) nc nt (sel (kBring u v) (bringF f u.toNatClampNeg v) f) k g) (cwV 0 hts gL_law_X4_thrown rfl rfl rfl pX4_thrown ⟨Nat.le_of_ble_eq_true rfl, Nat.le_of_ble_eq_true rfl⟩) hK hP hD hS hA hST (J_m) 0 rfl rfl rfl rfl hl.1 rfl (Nat.le_of_ble_eq_true rfl) dL_law_162 ⟨(by show _ ≤ 601024; omega), (by show _ ≤ 7293034; omega)⟩ rfl (fun H locs hP hD hS => ?_)
  refine lv_iload hx hb dL_law_165 (lv_at hl 1 rfl) ?_
  refine lv_icmp_eq (tgt := 172) hx hb dL_law_167 (by decide) (fun c_167 => ?_) (fun c_167 => ?_)
  rotate_left
  · exact absurd rfl c_167
  refine lv_iload hx hb dL_law_172 (lv_at hl 1 rfl) ?_
  refine lv_if_ne (tgt := 189) hx hb dL_law_174 (by decide) (fun c_174 => ?_) (fun c_174 => ?_)
  ·
    refine lv_goto (tgt := 1085) hx hb dL_law_189 (by decide) ?_
    obtain ⟨h9, hh9, G9⟩ := (⟨h, Nat.le_add_right _ _, g_bring u v G⟩ : ∃ h9, h9 ≤ h + 168 ∧ _)
    exact W.widen (by omega) (by omega) (kk _ _ _ _ _ _ _ _ _ _ _ h9 H locs ls G9 hh9 hP hD hS (lv_sub hl [2, 3, 4, 5, 6] rfl))
  ·
    have hK9 := K_0 (l_bring u v) c_174
    refine lv_aload_n hx hb dL_law_177 rfl (lv_at hl 3 rfl) ?_
    refine lv_iconst (v := 0) hx hb dL_law_178 (by decide) ?_
    refine w_lld hx hb hK hP 16 3 rfl rfl 0 rfl (by decide) (by decide) (v := (sel (kBring u v) (vp_updL w 0 ((bringF f u.toNatClampNeg v (u.toNatClampNeg + 1)).toInt64)) w) 0) rfl dL_law_179 ?_
    refine lv_iload hx hb dL_law_180 (lv_at hl 0 rfl) ?_
    refine lv_i2l hx hb dL_law_182 rfl ?_
    refine W.lcmp hx hb dL_law_183 ?_
    refine lv_if_eq (tgt := 189) hx hb dL_law_184 (by decide) (fun c_184 => ?_) (fun c_184 => ?_)
    rotate_left
    · exact absurd (by rw [hK9, sel_0, sel_0, updL_0]; exact lg_self _) c_184
    refine lv_goto (tgt := 1085) hx hb dL_law_189 (by decide) ?_
    obtain ⟨h9, hh9, G9⟩ := (⟨h, Nat.le_add_right _ _, g_bring u v G⟩ : ∃ h9, h9 ≤ h + 168 ∧ _)
    exact W.widen (by omega) (by omega) (kk _ _ _ _ _ _ _ _ _ _ _ h9 H locs ls G9 hh9 hP hD hS (lv_sub hl [2, 3, 4, 5, 6] rfl))

set_option maxHeartbeats 4000000 in
set_option maxRecDepth 100000 in
theorem law_setHeat {p : Program} {l : Launch} {e : Env} {s : State} {m : MethodId} {args : Array Value} {below : List Frame} {meth : Method} {c : Code} {Q : State → Prop} {A0 : Nat → Prop} {b L : Nat} {xs : Nat → Int32} {D : va_G} {cI cC cT cL : ClassId} {x : Nat} {A B : Nat → Nat} {ob : Nat} {M : Nat → Nat} {j h cells slots : Nat} {nc nt : Nat} {f g : Nat → Int32} {w : Nat → Int64} {nc2 nt2 : Nat} {f2 g2 : Nat → Int32} {th : Int32} {k : Nat → Int32} {H : Heap} {locs : List Loc} {ls : Array Slot} (EL : LE p l s m args c A0 b L xs D cI cC cT cL) (G : GS nc nt f g h) (hh : h < 2 ^ 28) (hcl : cells + 20 ≤ 601024) (hsl : slots + 200 ≤ 7293034) (hj : 4 * j + 4 ≤ L) (hL : L ≤ 2048) (kk : LK p l e s m args below meth c Q A0 b D cI cC cT cL x A B ob M j h cells slots) (hP : va_P D vwCl (LV cI cC cT cL x A B ob M nc nt f g w nc2 nt2 f2 g2 th nc nt f k g) H) (hD : va_D A0 (LV cI cC cT cL x A B ob M nc nt f g w nc2 nt2 f2 g2 th nc nt f k g)) (hS : va_S A0 s.heap H locs) (hl : lv_has ls 9 [(4, .int (nI (4 * j))), (3, .ref ob), (2, .ref (M 0)), (1, .ref x), (0, .ref b)]) : W p l e room_1 s m args below meth c H locs cells slots Q (F0 m 192 ls []) := by
  obtain ⟨hx, hb, hml, hown, hts, hK, hST, hX, hbl, hbA, hA, hl0⟩ := EL
  obtain ⟨u, hu9⟩ : ∃ u, u = xs (nI (4 * j) + 1).toNatClampNeg := ⟨_, rfl⟩
  obtain ⟨v, hv9⟩ : ∃ v, v = xs (nI (4 * j) + 2).toNatClampNeg := ⟨_, rfl⟩
  obtain ⟨z, hz9⟩ : ∃ z, z = xs (nI (4 * j) + 3).toNatClampNeg := ⟨_, rfl⟩
  have hin1 : vp_in (nI (4 * j) + 1) L := (nI_add (4 * j) 1).symm ▸ vp_in_nI (by omega) (by omega)
  have hin2 : vp_in (nI (4 * j) + 2) L := (nI_add (4 * j) 2).symm ▸ vp_in_nI (by omega) (by omega)
  have hin3 : vp_in (nI (4 * j) + 3) L := (nI_add (4 * j) 3).symm ▸ vp_in_nI (by omega) (by omega)
  refine lv_aload_n hx hb dL_law_192 rfl (lv_at hl 3 rfl) ?_
  refine lv_aload_n hx hb dL_law_193 rfl (lv_at hl 4 rfl) ?_
  refine lv_iload hx hb dL_law_194 (lv_at hl 0 rfl) ?_
  refine lv_iconst (v := 1) hx hb dL_law_196 (by decide) ?_
  refine lv_iadd hx hb dL_law_197 ?_
  refine va_sld hx hb hX hbl hbA hS hin1 dL_law_198 ?_
  rw [← hu9]
  refine lv_aload_n hx hb dL_law_199 rfl (lv_at hl 4 rfl) ?_
  refine lv_iload hx hb dL_law_200 (lv_at hl 0 rfl) ?_
  refine lv_iconst (v := 2) hx hb dL_law_202 (by decide) ?_
  refine lv_iadd hx hb dL_law_203 ?_
  refine va_sld hx hb hX hbl hbA hS hin2 dL_law_204 ?_
  rw [← hv9]
  refine lv_aload_n hx hb dL_law_205 rfl (lv_at hl 1 rfl) ?_
  refine c0_SW (As := [.ref x, .int u, .int v, .ref ob]) (rest := []) ⟨hx, hb, hml, hown, hts⟩ (wsetHeat l D cI cC cT cL hl0 x (B 0) A nc nt f g ob w u v) (vx_cwSW 4 hts gL_law_L_setHeat rfl rfl rfl pL_setHeat ⟨Nat.le_of_ble_eq_true rfl, Nat.le_of_ble_eq_true rfl⟩) hK hP hD hS hA hST (J_o) rfl hl.1 rfl (Nat.le_of_ble_eq_true rfl) dL_law_206 ⟨(by show _ ≤ 601024; omega), (by show _ ≤ 7293034; omega)⟩ rfl (fun H locs hP hD hS => ?_)
  refine lv_istore (lv' := [(5, .int (nI (kHeat u v))), (4, .int (nI (4 * j))), (3, .ref ob), (2, .ref (M 0)), (1, .ref x), (0, .ref b)]) hx hb dL_law_209 hl (by decide) rfl (fun ls hl => ?_)
  refine lv_aload_n hx hb dL_law_211 rfl (lv_at hl 3 rfl) ?_
  refine lv_aload_n hx hb dL_law_212 rfl (lv_at hl 5 rfl) ?_
  refine lv_iload hx hb dL_law_213 (lv_at hl 1 rfl) ?_
  refine lv_iconst (v := 1) hx hb dL_law_215 (by decide) ?_
  refine lv_iadd hx hb dL_law_216 ?_
  refine va_sld hx hb hX hbl hbA hS hin1 dL_law_217 ?_
  rw [← hu9]
  refine lv_aload_n hx hb dL_law_218 rfl (lv_at hl 5 rfl) ?_
  refine lv_iload hx hb dL_law_219 (lv_at hl 1 rfl) ?_
  refine lv_iconst (v := 2) hx hb dL_law_221 (by decide) ?_
  refine lv_iadd hx hb dL_law_222 ?_
  refine va_sld hx hb hX hbl hbA hS hin2 dL_law_223 ?_
  rw [← hv9]
  refine c0_V (As := [.int u, .int v]) (rest := []) ⟨hx, hb, hml, hown, hts⟩ (mX4_setHeat l D cI cC cT cL M th nc nt f k g u v) (cwV 2 hts gL_law_X4_setHeat rfl rfl rfl pX4_setHeat ⟨Nat.le_of_ble_eq_true rfl, Nat.le_of_ble_eq_true rfl⟩) hK hP hD hS hA hST (J_m) 0 rfl rfl rfl rfl hl.1 rfl (Nat.le_of_ble_eq_true rfl) dL_law_224 ⟨(by show _ ≤ 601024; omega), (by show _ ≤ 7293034; omega)⟩ rfl (fun H locs hP hD hS => ?_)
  refine lv_istore (lv' := [(6, .int (sel (kHeat u v) (g u.toNatClampNeg) 0)), (5, .int (nI (kHeat u v))), (4, .int (nI (4 * j))), (3, .ref ob), (2, .ref (M 0)), (1, .ref x), (0, .ref b)]) hx hb dL_law_227 hl (by decide) rfl (fun ls hl => ?_)
  refine lv_aload_n hx hb dL_law_229 rfl (lv_at hl 4 rfl) ?_
  refine c0_V (As := []) (rest := []) ⟨hx, hb, hml, hown, hts⟩ (mX4_thrown l D cI cC cT cL M (nI (kHeat u v)) nc nt f k (sel (kHeat u v) (upd g u.toNatClampNeg v) g)) (cwV 0 hts gL_law_X4_thrown rfl rfl rfl pX4_thrown ⟨Nat.le_of_ble_eq_true rfl, Nat.le_of_ble_eq_true rfl⟩) hK hP hD hS hA hST (J_m) 0 rfl rfl rfl rfl hl.1 rfl (Nat.le_of_ble_eq_true rfl) dL_law_230 ⟨(by show _ ≤ 601024; omega), (by show _ ≤ 7293034; omega)⟩ rfl (fun H locs hP hD hS => ?_)
  refine lv_iload hx hb dL_law_233 (lv_at hl 1 rfl) ?_
  refine lv_icmp_eq (tgt := 240) hx hb dL_law_235 (by decide) (fun c_235 => ?_) (fun c_235 => ?_)
  rotate_left
  · exact absurd rfl c_235
  refine lv_iload hx hb dL_law_240 (lv_at hl 1 rfl) ?_
  refine lv_if_ne (tgt := 257) hx hb dL_law_242 (by decide) (fun c_242 => ?_) (fun c_242 => ?_)
  ·
    refine lv_goto (tgt := 1085) hx hb dL_law_257 (by decide) ?_
    obtain ⟨h9, hh9, G9⟩ := (⟨h, Nat.le_add_right _ _, g_heat u v G⟩ : ∃ h9, h9 ≤ h + 168 ∧ _)
    exact W.widen (by omega) (by omega) (kk _ _ _ _ _ _ _ _ _ _ _ h9 H locs ls G9 hh9 hP hD hS (lv_sub hl [2, 3, 4, 5, 6] rfl))
  ·
    have hK9 := K_0 (l_heat u v) c_242
    refine lv_aload_n hx hb dL_law_245 rfl (lv_at hl 3 rfl) ?_
    refine lv_iconst (v := 0) hx hb dL_law_246 (by decide) ?_
    refine w_lld hx hb hK hP 16 3 rfl rfl 0 rfl (by decide) (by decide) (v := (sel (kHeat u v) (vp_updL w 0 ((g u.toNatClampNeg).toInt64)) w) 0) rfl dL_law_247 ?_
    refine lv_iload hx hb dL_law_248 (lv_at hl 0 rfl) ?_
    refine lv_i2l hx hb dL_law_250 rfl ?_
    refine W.lcmp hx hb dL_law_251 ?_
    refine lv_if_eq (tgt := 257) hx hb dL_law_252 (by decide) (fun c_252 => ?_) (fun c_252 => ?_)
    rotate_left
    · exact absurd (by rw [hK9, sel_0, sel_0, updL_0]; exact lg_self _) c_252
    refine lv_goto (tgt := 1085) hx hb dL_law_257 (by decide) ?_
    obtain ⟨h9, hh9, G9⟩ := (⟨h, Nat.le_add_right _ _, g_heat u v G⟩ : ∃ h9, h9 ≤ h + 168 ∧ _)
    exact W.widen (by omega) (by omega) (kk _ _ _ _ _ _ _ _ _ _ _ h9 H locs ls G9 hh9 hP hD hS (lv_sub hl [2, 3, 4, 5, 6] rfl))

set_option maxHeartbeats 4000000 in
set_option maxRecDepth 100000 in
theorem law_churn {p : Program} {l : Launch} {e : Env} {s : State} {m : MethodId} {args : Array Value} {below : List Frame} {meth : Method} {c : Code} {Q : State → Prop} {A0 : Nat → Prop} {b L : Nat} {xs : Nat → Int32} {D : va_G} {cI cC cT cL : ClassId} {x : Nat} {A B : Nat → Nat} {ob : Nat} {M : Nat → Nat} {j h cells slots : Nat} {nc nt : Nat} {f g : Nat → Int32} {w : Nat → Int64} {nc2 nt2 : Nat} {f2 g2 : Nat → Int32} {th : Int32} {k : Nat → Int32} {H : Heap} {locs : List Loc} {ls : Array Slot} (EL : LE p l s m args c A0 b L xs D cI cC cT cL) (G : GS nc nt f g h) (hh : h < 2 ^ 28) (hcl : cells + 20 ≤ 601024) (hsl : slots + 200 ≤ 7293034) (hj : 4 * j + 4 ≤ L) (hL : L ≤ 2048) (kk : LK p l e s m args below meth c Q A0 b D cI cC cT cL x A B ob M j h cells slots) (hP : va_P D vwCl (LV cI cC cT cL x A B ob M nc nt f g w nc2 nt2 f2 g2 th nc nt f k g) H) (hD : va_D A0 (LV cI cC cT cL x A B ob M nc nt f g w nc2 nt2 f2 g2 th nc nt f k g)) (hS : va_S A0 s.heap H locs) (hl : lv_has ls 9 [(4, .int (nI (4 * j))), (3, .ref ob), (2, .ref (M 0)), (1, .ref x), (0, .ref b)]) : W p l e room_1 s m args below meth c H locs cells slots Q (F0 m 260 ls []) := by
  obtain ⟨hx, hb, hml, hown, hts, hK, hST, hX, hbl, hbA, hA, hl0⟩ := EL
  obtain ⟨u, hu9⟩ : ∃ u, u = xs (nI (4 * j) + 1).toNatClampNeg := ⟨_, rfl⟩
  obtain ⟨v, hv9⟩ : ∃ v, v = xs (nI (4 * j) + 2).toNatClampNeg := ⟨_, rfl⟩
  obtain ⟨z, hz9⟩ : ∃ z, z = xs (nI (4 * j) + 3).toNatClampNeg := ⟨_, rfl⟩
  have hin1 : vp_in (nI (4 * j) + 1) L := (nI_add (4 * j) 1).symm ▸ vp_in_nI (by omega) (by omega)
  have hin2 : vp_in (nI (4 * j) + 2) L := (nI_add (4 * j) 2).symm ▸ vp_in_nI (by omega) (by omega)
  have hin3 : vp_in (nI (4 * j) + 3) L := (nI_add (4 * j) 3).symm ▸ vp_in_nI (by omega) (by omega)
  refine lv_aload_n hx hb dL_law_260 rfl (lv_at hl 3 rfl) ?_
  refine lv_aload_n hx hb dL_law_261 rfl (lv_at hl 1 rfl) ?_
  refine c0_SW (As := [.ref x, .ref ob]) (rest := []) ⟨hx, hb, hml, hown, hts⟩ (wchurn l D cI cC cT cL hl0 x (B 0) A nc nt f g ob w ) (vx_cwSW 2 hts gL_law_L_churn rfl rfl rfl pL_churn ⟨Nat.le_of_ble_eq_true rfl, Nat.le_of_ble_eq_true rfl⟩) hK hP hD hS hA hST (J_o) rfl hl.1 rfl (Nat.le_of_ble_eq_true rfl) dL_law_262 ⟨(by show _ ≤ 601024; omega), (by show _ ≤ 7293034; omega)⟩ rfl (fun H locs hP hD hS => ?_)
  refine lv_istore (lv' := [(5, .int (nI (kChurn nc))), (4, .int (nI (4 * j))), (3, .ref ob), (2, .ref (M 0)), (1, .ref x), (0, .ref b)]) hx hb dL_law_265 hl (by decide) rfl (fun ls hl => ?_)
  refine lv_aload_n hx hb dL_law_267 rfl (lv_at hl 3 rfl) ?_
  refine c0_V (As := []) (rest := []) ⟨hx, hb, hml, hown, hts⟩ (mX4_churn l D cI cC cT cL M th nc nt f k g G.1) (cwV 0 hts gL_law_X4_churn rfl rfl rfl pX4_churn ⟨Nat.le_of_ble_eq_true rfl, Nat.le_of_ble_eq_true rfl⟩) hK hP hD hS hA hST (J_m) 0 rfl rfl rfl rfl hl.1 rfl (Nat.le_of_ble_eq_true rfl) dL_law_268 ⟨(by show _ ≤ 601024; omega), (by show _ ≤ 7293034; omega)⟩ rfl (fun H locs hP hD hS => ?_)
  refine lv_istore (lv' := [(6, .int (sel (kChurn nc) (nI nc) 0)), (5, .int (nI (kChurn nc))), (4, .int (nI (4 * j))), (3, .ref ob), (2, .ref (M 0)), (1, .ref x), (0, .ref b)]) hx hb dL_law_271 hl (by decide) rfl (fun ls hl => ?_)
  refine lv_aload_n hx hb dL_law_273 rfl (lv_at hl 4 rfl) ?_
  refine c0_V (As := []) (rest := []) ⟨hx, hb, hml, hown, hts⟩ (mX4_thrown l D cI cC cT cL M (nI (kChurn nc)) (sel (kChurn nc) (nc + 1) nc) nt f k g) (cwV 0 hts gL_law_X4_thrown rfl rfl rfl pX4_thrown ⟨Nat.le_of_ble_eq_true rfl, Nat.le_of_ble_eq_true rfl⟩) hK hP hD hS hA hST (J_m) 0 rfl rfl rfl rfl hl.1 rfl (Nat.le_of_ble_eq_true rfl) dL_law_274 ⟨(by show _ ≤ 601024; omega), (by show _ ≤ 7293034; omega)⟩ rfl (fun H locs hP hD hS => ?_)
  refine lv_iload hx hb dL_law_277 (lv_at hl 1 rfl) ?_
  refine lv_icmp_eq (tgt := 284) hx hb dL_law_279 (by decide) (fun c_279 => ?_) (fun c_279 => ?_)
  rotate_left
  · exact absurd rfl c_279
  refine lv_iload hx hb dL_law_284 (lv_at hl 1 rfl) ?_
  refine lv_if_ne (tgt := 301) hx hb dL_law_286 (by decide) (fun c_286 => ?_) (fun c_286 => ?_)
  ·
    refine lv_goto (tgt := 1085) hx hb dL_law_301 (by decide) ?_
    obtain ⟨h9, hh9, G9⟩ := (⟨h, Nat.le_add_right _ _, g_churn G⟩ : ∃ h9, h9 ≤ h + 168 ∧ _)
    exact W.widen (by omega) (by omega) (kk _ _ _ _ _ _ _ _ _ _ _ h9 H locs ls G9 hh9 hP hD hS (lv_sub hl [2, 3, 4, 5, 6] rfl))
  ·
    have hK9 := K_0 (l_churn nc) c_286
    refine lv_aload_n hx hb dL_law_289 rfl (lv_at hl 3 rfl) ?_
    refine lv_iconst (v := 0) hx hb dL_law_290 (by decide) ?_
    refine w_lld hx hb hK hP 16 3 rfl rfl 0 rfl (by decide) (by decide) (v := (sel (kChurn nc) (vp_updL w 0 ((nI nc).toInt64)) w) 0) rfl dL_law_291 ?_
    refine lv_iload hx hb dL_law_292 (lv_at hl 0 rfl) ?_
    refine lv_i2l hx hb dL_law_294 rfl ?_
    refine W.lcmp hx hb dL_law_295 ?_
    refine lv_if_eq (tgt := 301) hx hb dL_law_296 (by decide) (fun c_296 => ?_) (fun c_296 => ?_)
    rotate_left
    · exact absurd (by rw [hK9, sel_0, sel_0, updL_0]; exact lg_self _) c_296
    refine lv_goto (tgt := 1085) hx hb dL_law_301 (by decide) ?_
    obtain ⟨h9, hh9, G9⟩ := (⟨h, Nat.le_add_right _ _, g_churn G⟩ : ∃ h9, h9 ≤ h + 168 ∧ _)
    exact W.widen (by omega) (by omega) (kk _ _ _ _ _ _ _ _ _ _ _ h9 H locs ls G9 hh9 hP hD hS (lv_sub hl [2, 3, 4, 5, 6] rfl))

set_option maxHeartbeats 4000000 in
set_option maxRecDepth 100000 in
theorem law_tub {p : Program} {l : Launch} {e : Env} {s : State} {m : MethodId} {args : Array Value} {below : List Frame} {meth : Method} {c : Code} {Q : State → Prop} {A0 : Nat → Prop} {b L : Nat} {xs : Nat → Int32} {D : va_G} {cI cC cT cL : ClassId} {x : Nat} {A B : Nat → Nat} {ob : Nat} {M : Nat → Nat} {j h cells slots : Nat} {nc nt : Nat} {f g : Nat → Int32} {w : Nat → Int64} {nc2 nt2 : Nat} {f2 g2 : Nat → Int32} {th : Int32} {k : Nat → Int32} {H : Heap} {locs : List Loc} {ls : Array Slot} (EL : LE p l s m args c A0 b L xs D cI cC cT cL) (G : GS nc nt f g h) (hh : h < 2 ^ 28) (hcl : cells + 20 ≤ 601024) (hsl : slots + 200 ≤ 7293034) (hj : 4 * j + 4 ≤ L) (hL : L ≤ 2048) (kk : LK p l e s m args below meth c Q A0 b D cI cC cT cL x A B ob M j h cells slots) (hP : va_P D vwCl (LV cI cC cT cL x A B ob M nc nt f g w nc2 nt2 f2 g2 th nc nt f k g) H) (hD : va_D A0 (LV cI cC cT cL x A B ob M nc nt f g w nc2 nt2 f2 g2 th nc nt f k g)) (hS : va_S A0 s.heap H locs) (hl : lv_has ls 9 [(4, .int (nI (4 * j))), (3, .ref ob), (2, .ref (M 0)), (1, .ref x), (0, .ref b)]) : W p l e room_1 s m args below meth c H locs cells slots Q (F0 m 304 ls []) := by
  obtain ⟨hx, hb, hml, hown, hts, hK, hST, hX, hbl, hbA, hA, hl0⟩ := EL
  obtain ⟨u, hu9⟩ : ∃ u, u = xs (nI (4 * j) + 1).toNatClampNeg := ⟨_, rfl⟩
  obtain ⟨v, hv9⟩ : ∃ v, v = xs (nI (4 * j) + 2).toNatClampNeg := ⟨_, rfl⟩
  obtain ⟨z, hz9⟩ : ∃ z, z = xs (nI (4 * j) + 3).toNatClampNeg := ⟨_, rfl⟩
  have hin1 : vp_in (nI (4 * j) + 1) L := (nI_add (4 * j) 1).symm ▸ vp_in_nI (by omega) (by omega)
  have hin2 : vp_in (nI (4 * j) + 2) L := (nI_add (4 * j) 2).symm ▸ vp_in_nI (by omega) (by omega)
  have hin3 : vp_in (nI (4 * j) + 3) L := (nI_add (4 * j) 3).symm ▸ vp_in_nI (by omega) (by omega)
  refine lv_aload_n hx hb dL_law_304 rfl (lv_at hl 3 rfl) ?_
  refine lv_aload_n hx hb dL_law_305 rfl (lv_at hl 1 rfl) ?_
  refine c0_SW (As := [.ref x, .ref ob]) (rest := []) ⟨hx, hb, hml, hown, hts⟩ (wtub l D cI cC cT cL hl0 x (B 0) A nc nt f g ob w ) (vx_cwSW 2 hts gL_law_L_tub rfl rfl rfl pL_tub ⟨Nat.le_of_ble_eq_true rfl, Nat.le_of_ble_eq_true rfl⟩) hK hP hD hS hA hST (J_o) rfl hl.1 rfl (Nat.le_of_ble_eq_true rfl) dL_law_306 ⟨(by show _ ≤ 601024; omega), (by show _ ≤ 7293034; omega)⟩ rfl (fun H locs hP hD hS => ?_)
  refine lv_istore (lv' := [(5, .int (nI (kTub nt))), (4, .int (nI (4 * j))), (3, .ref ob), (2, .ref (M 0)), (1, .ref x), (0, .ref b)]) hx hb dL_law_309 hl (by decide) rfl (fun ls hl => ?_)
  refine lv_aload_n hx hb dL_law_311 rfl (lv_at hl 3 rfl) ?_
  refine c0_V (As := []) (rest := []) ⟨hx, hb, hml, hown, hts⟩ (mX4_tub l D cI cC cT cL M th nc nt f k g G.2.1) (cwV 0 hts gL_law_X4_tub rfl rfl rfl pX4_tub ⟨Nat.le_of_ble_eq_true rfl, Nat.le_of_ble_eq_true rfl⟩) hK hP hD hS hA hST (J_m) 0 rfl rfl rfl rfl hl.1 rfl (Nat.le_of_ble_eq_true rfl) dL_law_312 ⟨(by show _ ≤ 601024; omega), (by show _ ≤ 7293034; omega)⟩ rfl (fun H locs hP hD hS => ?_)
  refine lv_istore (lv' := [(6, .int (sel (kTub nt) (nI nt) 0)), (5, .int (nI (kTub nt))), (4, .int (nI (4 * j))), (3, .ref ob), (2, .ref (M 0)), (1, .ref x), (0, .ref b)]) hx hb dL_law_315 hl (by decide) rfl (fun ls hl => ?_)
  refine lv_aload_n hx hb dL_law_317 rfl (lv_at hl 4 rfl) ?_
  refine c0_V (As := []) (rest := []) ⟨hx, hb, hml, hown, hts⟩ (mX4_thrown l D cI cC cT cL M (nI (kTub nt)) nc (sel (kTub nt) (nt + 1) nt) f k g) (cwV 0 hts gL_law_X4_thrown rfl rfl rfl pX4_thrown ⟨Nat.le_of_ble_eq_true rfl, Nat.le_of_ble_eq_true rfl⟩) hK hP hD hS hA hST (J_m) 0 rfl rfl rfl rfl hl.1 rfl (Nat.le_of_ble_eq_true rfl) dL_law_318 ⟨(by show _ ≤ 601024; omega), (by show _ ≤ 7293034; omega)⟩ rfl (fun H locs hP hD hS => ?_)
  refine lv_iload hx hb dL_law_321 (lv_at hl 1 rfl) ?_
  refine lv_icmp_eq (tgt := 328) hx hb dL_law_323 (by decide) (fun c_323 => ?_) (fun c_323 => ?_)
  rotate_left
  · exact absurd rfl c_323
  refine lv_iload hx hb dL_law_328 (lv_at hl 1 rfl) ?_
  refine lv_if_ne (tgt := 345) hx hb dL_law_330 (by decide) (fun c_330 => ?_) (fun c_330 => ?_)
  ·
    refine lv_goto (tgt := 1085) hx hb dL_law_345 (by decide) ?_
    obtain ⟨h9, hh9, G9⟩ := (⟨h, Nat.le_add_right _ _, g_tub G⟩ : ∃ h9, h9 ≤ h + 168 ∧ _)
    exact W.widen (by omega) (by omega) (kk _ _ _ _ _ _ _ _ _ _ _ h9 H locs ls G9 hh9 hP hD hS (lv_sub hl [2, 3, 4, 5, 6] rfl))
  ·
    have hK9 := K_0 (l_tub nt) c_330
    refine lv_aload_n hx hb dL_law_333 rfl (lv_at hl 3 rfl) ?_
    refine lv_iconst (v := 0) hx hb dL_law_334 (by decide) ?_
    refine w_lld hx hb hK hP 16 3 rfl rfl 0 rfl (by decide) (by decide) (v := (sel (kTub nt) (vp_updL w 0 ((nI nt).toInt64)) w) 0) rfl dL_law_335 ?_
    refine lv_iload hx hb dL_law_336 (lv_at hl 0 rfl) ?_
    refine lv_i2l hx hb dL_law_338 rfl ?_
    refine W.lcmp hx hb dL_law_339 ?_
    refine lv_if_eq (tgt := 345) hx hb dL_law_340 (by decide) (fun c_340 => ?_) (fun c_340 => ?_)
    rotate_left
    · exact absurd (by rw [hK9, sel_0, sel_0, updL_0]; exact lg_self _) c_340
    refine lv_goto (tgt := 1085) hx hb dL_law_345 (by decide) ?_
    obtain ⟨h9, hh9, G9⟩ := (⟨h, Nat.le_add_right _ _, g_tub G⟩ : ∃ h9, h9 ≤ h + 168 ∧ _)
    exact W.widen (by omega) (by omega) (kk _ _ _ _ _ _ _ _ _ _ _ h9 H locs ls G9 hh9 hP hD hS (lv_sub hl [2, 3, 4, 5, 6] rfl))

set_option maxHeartbeats 4000000 in
set_option maxRecDepth 100000 in
theorem law_pack {p : Program} {l : Launch} {e : Env} {s : State} {m : MethodId} {args : Array Value} {below : List Frame} {meth : Method} {c : Code} {Q : State → Prop} {A0 : Nat → Prop} {b L : Nat} {xs : Nat → Int32} {D : va_G} {cI cC cT cL : ClassId} {x : Nat} {A B : Nat → Nat} {ob : Nat} {M : Nat → Nat} {j h cells slots : Nat} {nc nt : Nat} {f g : Nat → Int32} {w : Nat → Int64} {nc2 nt2 : Nat} {f2 g2 : Nat → Int32} {th : Int32} {k : Nat → Int32} {H : Heap} {locs : List Loc} {ls : Array Slot} (EL : LE p l s m args c A0 b L xs D cI cC cT cL) (G : GS nc nt f g h) (hh : h < 2 ^ 28) (hcl : cells + 20 ≤ 601024) (hsl : slots + 200 ≤ 7293034) (hj : 4 * j + 4 ≤ L) (hL : L ≤ 2048) (kk : LK p l e s m args below meth c Q A0 b D cI cC cT cL x A B ob M j h cells slots) (hP : va_P D vwCl (LV cI cC cT cL x A B ob M nc nt f g w nc2 nt2 f2 g2 th nc nt f k g) H) (hD : va_D A0 (LV cI cC cT cL x A B ob M nc nt f g w nc2 nt2 f2 g2 th nc nt f k g)) (hS : va_S A0 s.heap H locs) (hl : lv_has ls 9 [(4, .int (nI (4 * j))), (3, .ref ob), (2, .ref (M 0)), (1, .ref x), (0, .ref b)]) : W p l e room_1 s m args below meth c H locs cells slots Q (F0 m 348 ls []) := by
  obtain ⟨hx, hb, hml, hown, hts, hK, hST, hX, hbl, hbA, hA, hl0⟩ := EL
  obtain ⟨u, hu9⟩ : ∃ u, u = xs (nI (4 * j) + 1).toNatClampNeg := ⟨_, rfl⟩
  obtain ⟨v, hv9⟩ : ∃ v, v = xs (nI (4 * j) + 2).toNatClampNeg := ⟨_, rfl⟩
  obtain ⟨z, hz9⟩ : ∃ z, z = xs (nI (4 * j) + 3).toNatClampNeg := ⟨_, rfl⟩
  have hin1 : vp_in (nI (4 * j) + 1) L := (nI_add (4 * j) 1).symm ▸ vp_in_nI (by omega) (by omega)
  have hin2 : vp_in (nI (4 * j) + 2) L := (nI_add (4 * j) 2).symm ▸ vp_in_nI (by omega) (by omega)
  have hin3 : vp_in (nI (4 * j) + 3) L := (nI_add (4 * j) 3).symm ▸ vp_in_nI (by omega) (by omega)
  refine lv_aload_n hx hb dL_law_348 rfl (lv_at hl 3 rfl) ?_
  refine lv_aload_n hx hb dL_law_349 rfl (lv_at hl 4 rfl) ?_
  refine lv_iload hx hb dL_law_350 (lv_at hl 0 rfl) ?_
  refine lv_iconst (v := 1) hx hb dL_law_352 (by decide) ?_
  refine lv_iadd hx hb dL_law_353 ?_
  refine va_sld hx hb hX hbl hbA hS hin1 dL_law_354 ?_
  rw [← hu9]
  refine lv_aload_n hx hb dL_law_355 rfl (lv_at hl 4 rfl) ?_
  refine lv_iload hx hb dL_law_356 (lv_at hl 0 rfl) ?_
  refine lv_iconst (v := 2) hx hb dL_law_358 (by decide) ?_
  refine lv_iadd hx hb dL_law_359 ?_
  refine va_sld hx hb hX hbl hbA hS hin2 dL_law_360 ?_
  rw [← hv9]
  refine lv_aload_n hx hb dL_law_361 rfl (lv_at hl 4 rfl) ?_
  refine lv_iload hx hb dL_law_362 (lv_at hl 0 rfl) ?_
  refine lv_iconst (v := 3) hx hb dL_law_364 (by decide) ?_
  refine lv_iadd hx hb dL_law_365 ?_
  refine va_sld hx hb hX hbl hbA hS hin3 dL_law_366 ?_
  rw [← hz9]
  refine lv_aload_n hx hb dL_law_367 rfl (lv_at hl 1 rfl) ?_
  refine c0_SW (As := [.ref x, .int u, .int v, .int z, .ref ob]) (rest := []) ⟨hx, hb, hml, hown, hts⟩ (wpack l D cI cC cT cL hl0 x (B 0) A nc nt f g ob w u v z G.1) (vx_cwSW 5 hts gL_law_L_pack rfl rfl rfl pL_pack ⟨Nat.le_of_ble_eq_true rfl, Nat.le_of_ble_eq_true rfl⟩) hK hP hD hS hA hST (J_o) rfl hl.1 rfl (Nat.le_of_ble_eq_true rfl) dL_law_368 ⟨(by show _ ≤ 601024; omega), (by show _ ≤ 7293034; omega)⟩ rfl (fun H locs hP hD hS => ?_)
  refine lv_istore (lv' := [(5, .int (nI (kPack nc f u v z))), (4, .int (nI (4 * j))), (3, .ref ob), (2, .ref (M 0)), (1, .ref x), (0, .ref b)]) hx hb dL_law_371 hl (by decide) rfl (fun ls hl => ?_)
  refine lv_aload_n hx hb dL_law_373 rfl (lv_at hl 3 rfl) ?_
  refine lv_aload_n hx hb dL_law_374 rfl (lv_at hl 5 rfl) ?_
  refine lv_iload hx hb dL_law_375 (lv_at hl 1 rfl) ?_
  refine lv_iconst (v := 1) hx hb dL_law_377 (by decide) ?_
  refine lv_iadd hx hb dL_law_378 ?_
  refine va_sld hx hb hX hbl hbA hS hin1 dL_law_379 ?_
  rw [← hu9]
  refine lv_aload_n hx hb dL_law_380 rfl (lv_at hl 5 rfl) ?_
  refine lv_iload hx hb dL_law_381 (lv_at hl 1 rfl) ?_
  refine lv_iconst (v := 2) hx hb dL_law_383 (by decide) ?_
  refine lv_iadd hx hb dL_law_384 ?_
  refine va_sld hx hb hX hbl hbA hS hin2 dL_law_385 ?_
  rw [← hv9]
  refine lv_aload_n hx hb dL_law_386 rfl (lv_at hl 5 rfl) ?_
  refine lv_iload hx hb dL_law_387 (lv_at hl 1 rfl) ?_
  refine lv_iconst (v := 3) hx hb dL_law_389 (by decide) ?_
  refine lv_iadd hx hb dL_law_390 ?_
  refine va_sld hx hb hX hbl hbA hS hin3 dL_law_391 ?_
  rw [← hz9]
  refine c0_V (As := [.int u, .int v, .int z]) (rest := []) ⟨hx, hb, hml, hown, hts⟩ (mX4_pack l D cI cC cT cL M th nc nt f k g u v z G.1) (cwV 3 hts gL_law_X4_pack rfl rfl rfl pX4_pack ⟨Nat.le_of_ble_eq_true rfl, Nat.le_of_ble_eq_true rfl⟩) hK hP hD hS hA hST (J_m) 0 rfl rfl rfl rfl hl.1 rfl (Nat.le_of_ble_eq_true rfl) dL_law_392 ⟨(by show _ ≤ 601024; omega), (by show _ ≤ 7293034; omega)⟩ rfl (fun H locs hP hD hS => ?_)
  refine lv_istore (lv' := [(6, .int (sel (kPack nc f u v z) (packF f u.toNatClampNeg v z (7 + 3 * u.toNatClampNeg)) 0)), (5, .int (nI (kPack nc f u v z))), (4, .int (nI (4 * j))), (3, .ref ob), (2, .ref (M 0)), (1, .ref x), (0, .ref b)]) hx hb dL_law_395 hl (by decide) rfl (fun ls hl => ?_)
  refine lv_aload_n hx hb dL_law_397 rfl (lv_at hl 4 rfl) ?_
  refine c0_V (As := []) (rest := []) ⟨hx, hb, hml, hown, hts⟩ (mX4_thrown l D cI cC cT cL M (nI (kPack nc f u v z)) nc nt (sel (kPack nc f u v z) (packF f u.toNatClampNeg v z) f) k g) (cwV 0 hts gL_law_X4_thrown rfl rfl rfl pX4_thrown ⟨Nat.le_of_ble_eq_true rfl, Nat.le_of_ble_eq_true rfl⟩) hK hP hD hS hA hST (J_m) 0 rfl rfl rfl rfl hl.1 rfl (Nat.le_of_ble_eq_true rfl) dL_law_398 ⟨(by show _ ≤ 601024; omega), (by show _ ≤ 7293034; omega)⟩ rfl (fun H locs hP hD hS => ?_)
  refine lv_iload hx hb dL_law_401 (lv_at hl 1 rfl) ?_
  refine lv_icmp_eq (tgt := 408) hx hb dL_law_403 (by decide) (fun c_403 => ?_) (fun c_403 => ?_)
  rotate_left
  · exact absurd rfl c_403
  refine lv_iload hx hb dL_law_408 (lv_at hl 1 rfl) ?_
  refine lv_if_ne (tgt := 425) hx hb dL_law_410 (by decide) (fun c_410 => ?_) (fun c_410 => ?_)
  ·
    refine lv_goto (tgt := 1085) hx hb dL_law_425 (by decide) ?_
    obtain ⟨h9, hh9, G9⟩ := (⟨h, Nat.le_add_right _ _, g_pack u v z G⟩ : ∃ h9, h9 ≤ h + 168 ∧ _)
    exact W.widen (by omega) (by omega) (kk _ _ _ _ _ _ _ _ _ _ _ h9 H locs ls G9 hh9 hP hD hS (lv_sub hl [2, 3, 4, 5, 6] rfl))
  ·
    have hK9 := K_0 (l_pack nc f u v z) c_410
    refine lv_aload_n hx hb dL_law_413 rfl (lv_at hl 3 rfl) ?_
    refine lv_iconst (v := 0) hx hb dL_law_414 (by decide) ?_
    refine w_lld hx hb hK hP 16 3 rfl rfl 0 rfl (by decide) (by decide) (v := (sel (kPack nc f u v z) (vp_updL w 0 ((packF f u.toNatClampNeg v z (7 + 3 * u.toNatClampNeg)).toInt64)) w) 0) rfl dL_law_415 ?_
    refine lv_iload hx hb dL_law_416 (lv_at hl 0 rfl) ?_
    refine lv_i2l hx hb dL_law_418 rfl ?_
    refine W.lcmp hx hb dL_law_419 ?_
    refine lv_if_eq (tgt := 425) hx hb dL_law_420 (by decide) (fun c_420 => ?_) (fun c_420 => ?_)
    rotate_left
    · exact absurd (by rw [hK9, sel_0, sel_0, updL_0]; exact lg_self _) c_420
    refine lv_goto (tgt := 1085) hx hb dL_law_425 (by decide) ?_
    obtain ⟨h9, hh9, G9⟩ := (⟨h, Nat.le_add_right _ _, g_pack u v z G⟩ : ∃ h9, h9 ≤ h + 168 ∧ _)
    exact W.widen (by omega) (by omega) (kk _ _ _ _ _ _ _ _ _ _ _ h9 H locs ls G9 hh9 hP hD hS (lv_sub hl [2, 3, 4, 5, 6] rfl))

set_option maxHeartbeats 4000000 in
set_option maxRecDepth 100000 in
theorem law_pour {p : Program} {l : Launch} {e : Env} {s : State} {m : MethodId} {args : Array Value} {below : List Frame} {meth : Method} {c : Code} {Q : State → Prop} {A0 : Nat → Prop} {b L : Nat} {xs : Nat → Int32} {D : va_G} {cI cC cT cL : ClassId} {x : Nat} {A B : Nat → Nat} {ob : Nat} {M : Nat → Nat} {j h cells slots : Nat} {nc nt : Nat} {f g : Nat → Int32} {w : Nat → Int64} {nc2 nt2 : Nat} {f2 g2 : Nat → Int32} {th : Int32} {k : Nat → Int32} {H : Heap} {locs : List Loc} {ls : Array Slot} (EL : LE p l s m args c A0 b L xs D cI cC cT cL) (G : GS nc nt f g h) (hh : h < 2 ^ 28) (hcl : cells + 20 ≤ 601024) (hsl : slots + 200 ≤ 7293034) (hj : 4 * j + 4 ≤ L) (hL : L ≤ 2048) (kk : LK p l e s m args below meth c Q A0 b D cI cC cT cL x A B ob M j h cells slots) (hP : va_P D vwCl (LV cI cC cT cL x A B ob M nc nt f g w nc2 nt2 f2 g2 th nc nt f k g) H) (hD : va_D A0 (LV cI cC cT cL x A B ob M nc nt f g w nc2 nt2 f2 g2 th nc nt f k g)) (hS : va_S A0 s.heap H locs) (hl : lv_has ls 9 [(4, .int (nI (4 * j))), (3, .ref ob), (2, .ref (M 0)), (1, .ref x), (0, .ref b)]) : W p l e room_1 s m args below meth c H locs cells slots Q (F0 m 428 ls []) := by
  obtain ⟨hx, hb, hml, hown, hts, hK, hST, hX, hbl, hbA, hA, hl0⟩ := EL
  obtain ⟨u, hu9⟩ : ∃ u, u = xs (nI (4 * j) + 1).toNatClampNeg := ⟨_, rfl⟩
  obtain ⟨v, hv9⟩ : ∃ v, v = xs (nI (4 * j) + 2).toNatClampNeg := ⟨_, rfl⟩
  obtain ⟨z, hz9⟩ : ∃ z, z = xs (nI (4 * j) + 3).toNatClampNeg := ⟨_, rfl⟩
  have hin1 : vp_in (nI (4 * j) + 1) L := (nI_add (4 * j) 1).symm ▸ vp_in_nI (by omega) (by omega)
  have hin2 : vp_in (nI (4 * j) + 2) L := (nI_add (4 * j) 2).symm ▸ vp_in_nI (by omega) (by omega)
  have hin3 : vp_in (nI (4 * j) + 3) L := (nI_add (4 * j) 3).symm ▸ vp_in_nI (by omega) (by omega)
  refine lv_aload_n hx hb dL_law_428 rfl (lv_at hl 3 rfl) ?_
  refine lv_aload_n hx hb dL_law_429 rfl (lv_at hl 4 rfl) ?_
  refine lv_iload hx hb dL_law_430 (lv_at hl 0 rfl) ?_
  refine lv_iconst (v := 1) hx hb dL_law_432 (by decide) ?_
  refine lv_iadd hx hb dL_law_433 ?_
  refine va_sld hx hb hX hbl hbA hS hin1 dL_law_434 ?_
  rw [← hu9]
  refine lv_aload_n hx hb dL_law_435 rfl (lv_at hl 4 rfl) ?_
  refine lv_iload hx hb dL_law_436 (lv_at hl 0 rfl) ?_
  refine lv_iconst (v := 2) hx hb dL_law_438 (by decide) ?_
  refine lv_iadd hx hb dL_law_439 ?_
  refine va_sld hx hb hX hbl hbA hS hin2 dL_law_440 ?_
  rw [← hv9]
  refine lv_aload_n hx hb dL_law_441 rfl (lv_at hl 1 rfl) ?_
  refine c0_SW (As := [.ref x, .int u, .int v, .ref ob]) (rest := []) ⟨hx, hb, hml, hown, hts⟩ (wpour l D cI cC cT cL hl0 x (B 0) A nc nt f g ob w u v G.1) (vx_cwSW 4 hts gL_law_L_pour rfl rfl rfl pL_pour ⟨Nat.le_of_ble_eq_true rfl, Nat.le_of_ble_eq_true rfl⟩) hK hP hD hS hA hST (J_o) rfl hl.1 rfl (Nat.le_of_ble_eq_true rfl) dL_law_442 ⟨(by show _ ≤ 601024; omega), (by show _ ≤ 7293034; omega)⟩ rfl (fun H locs hP hD hS => ?_)
  refine lv_istore (lv' := [(5, .int (nI (kPour nc f u v))), (4, .int (nI (4 * j))), (3, .ref ob), (2, .ref (M 0)), (1, .ref x), (0, .ref b)]) hx hb dL_law_445 hl (by decide) rfl (fun ls hl => ?_)
  refine lv_aload_n hx hb dL_law_447 rfl (lv_at hl 3 rfl) ?_
  refine lv_aload_n hx hb dL_law_448 rfl (lv_at hl 5 rfl) ?_
  refine lv_iload hx hb dL_law_449 (lv_at hl 1 rfl) ?_
  refine lv_iconst (v := 1) hx hb dL_law_451 (by decide) ?_
  refine lv_iadd hx hb dL_law_452 ?_
  refine va_sld hx hb hX hbl hbA hS hin1 dL_law_453 ?_
  rw [← hu9]
  refine lv_aload_n hx hb dL_law_454 rfl (lv_at hl 5 rfl) ?_
  refine lv_iload hx hb dL_law_455 (lv_at hl 1 rfl) ?_
  refine lv_iconst (v := 2) hx hb dL_law_457 (by decide) ?_
  refine lv_iadd hx hb dL_law_458 ?_
  refine va_sld hx hb hX hbl hbA hS hin2 dL_law_459 ?_
  rw [← hv9]
  refine c0_V (As := [.int u, .int v]) (rest := []) ⟨hx, hb, hml, hown, hts⟩ (mX4_pour l D cI cC cT cL M th nc nt f k g u v G.1 G.2.2.1) (cwV 2 hts gL_law_X4_pour rfl rfl rfl pX4_pour ⟨Nat.le_of_ble_eq_true rfl, Nat.le_of_ble_eq_true rfl⟩) hK hP hD hS hA hST (J_m) 0 rfl rfl rfl rfl hl.1 rfl (Nat.le_of_ble_eq_true rfl) dL_law_460 ⟨(by show _ ≤ 601024; omega), (by show _ ≤ 7293034; omega)⟩ rfl (fun H locs hP hD hS => ?_)
  refine lv_istore (lv' := [(6, .int (sel (kPour nc f u v) (pourF f u.toNatClampNeg v (9 + 3 * u.toNatClampNeg)) 0)), (5, .int (nI (kPour nc f u v))), (4, .int (nI (4 * j))), (3, .ref ob), (2, .ref (M 0)), (1, .ref x), (0, .ref b)]) hx hb dL_law_463 hl (by decide) rfl (fun ls hl => ?_)
  refine lv_aload_n hx hb dL_law_465 rfl (lv_at hl 4 rfl) ?_
  refine c0_V (As := []) (rest := []) ⟨hx, hb, hml, hown, hts⟩ (mX4_thrown l D cI cC cT cL M (nI (kPour nc f u v)) nc nt (sel (kPour nc f u v) (pourF f u.toNatClampNeg v) f) k g) (cwV 0 hts gL_law_X4_thrown rfl rfl rfl pX4_thrown ⟨Nat.le_of_ble_eq_true rfl, Nat.le_of_ble_eq_true rfl⟩) hK hP hD hS hA hST (J_m) 0 rfl rfl rfl rfl hl.1 rfl (Nat.le_of_ble_eq_true rfl) dL_law_466 ⟨(by show _ ≤ 601024; omega), (by show _ ≤ 7293034; omega)⟩ rfl (fun H locs hP hD hS => ?_)
  refine lv_iload hx hb dL_law_469 (lv_at hl 1 rfl) ?_
  refine lv_icmp_eq (tgt := 476) hx hb dL_law_471 (by decide) (fun c_471 => ?_) (fun c_471 => ?_)
  rotate_left
  · exact absurd rfl c_471
  refine lv_iload hx hb dL_law_476 (lv_at hl 1 rfl) ?_
  refine lv_if_ne (tgt := 493) hx hb dL_law_478 (by decide) (fun c_478 => ?_) (fun c_478 => ?_)
  ·
    refine lv_goto (tgt := 1085) hx hb dL_law_493 (by decide) ?_
    obtain ⟨h9, hh9, G9⟩ := (⟨h, Nat.le_add_right _ _, g_pour u v G⟩ : ∃ h9, h9 ≤ h + 168 ∧ _)
    exact W.widen (by omega) (by omega) (kk _ _ _ _ _ _ _ _ _ _ _ h9 H locs ls G9 hh9 hP hD hS (lv_sub hl [2, 3, 4, 5, 6] rfl))
  ·
    have hK9 := K_0 (l_pour nc f u v) c_478
    refine lv_aload_n hx hb dL_law_481 rfl (lv_at hl 3 rfl) ?_
    refine lv_iconst (v := 0) hx hb dL_law_482 (by decide) ?_
    refine w_lld hx hb hK hP 16 3 rfl rfl 0 rfl (by decide) (by decide) (v := (sel (kPour nc f u v) (vp_updL w 0 ((pourF f u.toNatClampNeg v (9 + 3 * u.toNatClampNeg)).toInt64)) w) 0) rfl dL_law_483 ?_
    refine lv_iload hx hb dL_law_484 (lv_at hl 0 rfl) ?_
    refine lv_i2l hx hb dL_law_486 rfl ?_
    refine W.lcmp hx hb dL_law_487 ?_
    refine lv_if_eq (tgt := 493) hx hb dL_law_488 (by decide) (fun c_488 => ?_) (fun c_488 => ?_)
    rotate_left
    · exact absurd (by rw [hK9, sel_0, sel_0, updL_0]; exact lg_self _) c_488
    refine lv_goto (tgt := 1085) hx hb dL_law_493 (by decide) ?_
    obtain ⟨h9, hh9, G9⟩ := (⟨h, Nat.le_add_right _ _, g_pour u v G⟩ : ∃ h9, h9 ≤ h + 168 ∧ _)
    exact W.widen (by omega) (by omega) (kk _ _ _ _ _ _ _ _ _ _ _ h9 H locs ls G9 hh9 hP hD hS (lv_sub hl [2, 3, 4, 5, 6] rfl))
