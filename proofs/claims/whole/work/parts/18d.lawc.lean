set_option maxHeartbeats 4000000 in
set_option maxRecDepth 100000 in
theorem law_done {p : Program} {l : Launch} {e : Env} {s : State} {m : MethodId} {args : Array Value} {below : List Frame} {meth : Method} {c : Code} {Q : State → Prop} {A0 : Nat → Prop} {b L : Nat} {xs : Nat → Int32} {D : va_G} {cI cC cT cL : ClassId} {x : Nat} {A B : Nat → Nat} {ob : Nat} {M : Nat → Nat} {j h cells slots : Nat} {nc nt : Nat} {f g : Nat → Int32} {w : Nat → Int64} {nc2 nt2 : Nat} {f2 g2 : Nat → Int32} {th : Int32} {k : Nat → Int32} {H : Heap} {locs : List Loc} {ls : Array Slot} (EL : LE p l s m args c A0 b L xs D cI cC cT cL) (G : GS nc nt f g h) (hh : h < 2 ^ 28) (hcl : cells + 20 ≤ 601024) (hsl : slots + 200 ≤ 7293034) (hj : 4 * j + 4 ≤ L) (hL : L ≤ 2048) (kk : LK p l e s m args below meth c Q A0 b D cI cC cT cL x A B ob M j h cells slots) (hP : va_P D vwCl (LV cI cC cT cL x A B ob M nc nt f g w nc2 nt2 f2 g2 th nc nt f k g) H) (hD : va_D A0 (LV cI cC cT cL x A B ob M nc nt f g w nc2 nt2 f2 g2 th nc nt f k g)) (hS : va_S A0 s.heap H locs) (hl : lv_has ls 9 [(4, .int (nI (4 * j))), (3, .ref ob), (2, .ref (M 0)), (1, .ref x), (0, .ref b)]) : W p l e room_1 s m args below meth c H locs cells slots Q (F0 m 825 ls []) := by
  obtain ⟨hx, hb, hml, hown, hts, hK, hST, hX, hbl, hbA, hA, hl0⟩ := EL
  obtain ⟨u, hu9⟩ : ∃ u, u = xs (nI (4 * j) + 1).toNatClampNeg := ⟨_, rfl⟩
  obtain ⟨v, hv9⟩ : ∃ v, v = xs (nI (4 * j) + 2).toNatClampNeg := ⟨_, rfl⟩
  obtain ⟨z, hz9⟩ : ∃ z, z = xs (nI (4 * j) + 3).toNatClampNeg := ⟨_, rfl⟩
  have hin1 : vp_in (nI (4 * j) + 1) L := (nI_add (4 * j) 1).symm ▸ vp_in_nI (by omega) (by omega)
  have hin2 : vp_in (nI (4 * j) + 2) L := (nI_add (4 * j) 2).symm ▸ vp_in_nI (by omega) (by omega)
  have hin3 : vp_in (nI (4 * j) + 3) L := (nI_add (4 * j) 3).symm ▸ vp_in_nI (by omega) (by omega)
  refine lv_aload_n hx hb dL_law_825 rfl (lv_at hl 3 rfl) ?_
  refine lv_aload_n hx hb dL_law_826 rfl (lv_at hl 4 rfl) ?_
  refine lv_iload hx hb dL_law_827 (lv_at hl 0 rfl) ?_
  refine lv_iconst (v := 1) hx hb dL_law_829 (by decide) ?_
  refine lv_iadd hx hb dL_law_830 ?_
  refine va_sld hx hb hX hbl hbA hS hin1 dL_law_831 ?_
  rw [← hu9]
  refine lv_aload_n hx hb dL_law_832 rfl (lv_at hl 1 rfl) ?_
  refine c0_SW (As := [.ref x, .int u, .ref ob]) (rest := []) ⟨hx, hb, hml, hown, hts⟩ (wdone l D cI cC cT cL hl0 x (B 0) A nc nt f g ob w u G.1 h (by omega) G.2.2.2.2) (vx_cwSW 3 hts gL_law_L_done rfl rfl rfl pL_done ⟨Nat.le_of_ble_eq_true rfl, Nat.le_of_ble_eq_true rfl⟩) hK hP hD hS hA hST (J_o) rfl hl.1 rfl (Nat.le_of_ble_eq_true rfl) dL_law_833 ⟨(by show _ ≤ 601024; omega), (by show _ ≤ 7293034; omega)⟩ rfl (fun H locs hP hD hS => ?_)
  refine lv_istore (lv' := [(5, .int (nI (kDone nc u))), (4, .int (nI (4 * j))), (3, .ref ob), (2, .ref (M 0)), (1, .ref x), (0, .ref b)]) hx hb dL_law_836 hl (by decide) rfl (fun ls hl => ?_)
  refine lv_aload_n hx hb dL_law_838 rfl (lv_at hl 3 rfl) ?_
  refine lv_aload_n hx hb dL_law_839 rfl (lv_at hl 5 rfl) ?_
  refine lv_iload hx hb dL_law_840 (lv_at hl 1 rfl) ?_
  refine lv_iconst (v := 1) hx hb dL_law_842 (by decide) ?_
  refine lv_iadd hx hb dL_law_843 ?_
  refine va_sld hx hb hX hbl hbA hS hin1 dL_law_844 ?_
  rw [← hu9]
  refine c0_V (As := [.int u]) (rest := []) ⟨hx, hb, hml, hown, hts⟩ (mX4_done l D cI cC cT cL M th nc nt f k g u G.1 G.2.1 G.2.2.1 G.2.2.2.1 h (by omega) G.2.2.2.2) (cwV 1 hts gL_law_X4_done rfl rfl rfl pX4_done ⟨Nat.le_of_ble_eq_true rfl, Nat.le_of_ble_eq_true rfl⟩) hK hP hD hS hA hST (J_m) 0 rfl rfl rfl rfl hl.1 rfl (Nat.le_of_ble_eq_true rfl) dL_law_845 ⟨(by show _ ≤ 601024; omega), (by show _ ≤ 7293034; omega)⟩ rfl (fun H locs hP hD hS => ?_)
  refine lv_istore (lv' := [(6, .int (sel (kDone nc u) (doneC f g h u.toNatClampNeg) 0)), (5, .int (nI (kDone nc u))), (4, .int (nI (4 * j))), (3, .ref ob), (2, .ref (M 0)), (1, .ref x), (0, .ref b)]) hx hb dL_law_848 hl (by decide) rfl (fun ls hl => ?_)
  refine lv_aload_n hx hb dL_law_850 rfl (lv_at hl 4 rfl) ?_
  refine c0_V (As := []) (rest := []) ⟨hx, hb, hml, hown, hts⟩ (mX4_thrown l D cI cC cT cL M (nI (kDone nc u)) nc nt f (sel (kDone nc u) (if f (8 + 3 * u.toNatClampNeg) = 0 then k else (va_cpy f k 0 0 37)) k) g) (cwV 0 hts gL_law_X4_thrown rfl rfl rfl pX4_thrown ⟨Nat.le_of_ble_eq_true rfl, Nat.le_of_ble_eq_true rfl⟩) hK hP hD hS hA hST (J_m) 0 rfl rfl rfl rfl hl.1 rfl (Nat.le_of_ble_eq_true rfl) dL_law_851 ⟨(by show _ ≤ 601024; omega), (by show _ ≤ 7293034; omega)⟩ rfl (fun H locs hP hD hS => ?_)
  refine lv_iload hx hb dL_law_854 (lv_at hl 1 rfl) ?_
  refine lv_icmp_eq (tgt := 861) hx hb dL_law_856 (by decide) (fun c_856 => ?_) (fun c_856 => ?_)
  rotate_left
  · exact absurd rfl c_856
  refine lv_iload hx hb dL_law_861 (lv_at hl 1 rfl) ?_
  refine lv_if_ne (tgt := 878) hx hb dL_law_863 (by decide) (fun c_863 => ?_) (fun c_863 => ?_)
  ·
    refine lv_goto (tgt := 1085) hx hb dL_law_878 (by decide) ?_
    obtain ⟨h9, hh9, G9⟩ := (⟨h, Nat.le_add_right _ _, G⟩ : ∃ h9, h9 ≤ h + 168 ∧ _)
    exact W.widen (by omega) (by omega) (kk _ _ _ _ _ _ _ _ _ _ _ h9 H locs ls G9 hh9 hP hD hS (lv_sub hl [2, 3, 4, 5, 6] rfl))
  ·
    have hK9 := K_0 (l_done nc u) c_863
    refine lv_aload_n hx hb dL_law_866 rfl (lv_at hl 3 rfl) ?_
    refine lv_iconst (v := 0) hx hb dL_law_867 (by decide) ?_
    refine w_lld hx hb hK hP 16 3 rfl rfl 0 rfl (by decide) (by decide) (v := (sel (kDone nc u) (vp_updL w 0 ((doneC f g h u.toNatClampNeg).toInt64)) w) 0) rfl dL_law_868 ?_
    refine lv_iload hx hb dL_law_869 (lv_at hl 0 rfl) ?_
    refine lv_i2l hx hb dL_law_871 rfl ?_
    refine W.lcmp hx hb dL_law_872 ?_
    refine lv_if_eq (tgt := 878) hx hb dL_law_873 (by decide) (fun c_873 => ?_) (fun c_873 => ?_)
    rotate_left
    · exact absurd (by rw [hK9, sel_0, sel_0, updL_0]; exact lg_self _) c_873
    refine lv_goto (tgt := 1085) hx hb dL_law_878 (by decide) ?_
    obtain ⟨h9, hh9, G9⟩ := (⟨h, Nat.le_add_right _ _, G⟩ : ∃ h9, h9 ≤ h + 168 ∧ _)
    exact W.widen (by omega) (by omega) (kk _ _ _ _ _ _ _ _ _ _ _ h9 H locs ls G9 hh9 hP hD hS (lv_sub hl [2, 3, 4, 5, 6] rfl))

set_option maxHeartbeats 4000000 in
set_option maxRecDepth 100000 in
theorem law_foresee {p : Program} {l : Launch} {e : Env} {s : State} {m : MethodId} {args : Array Value} {below : List Frame} {meth : Method} {c : Code} {Q : State → Prop} {A0 : Nat → Prop} {b L : Nat} {xs : Nat → Int32} {D : va_G} {cI cC cT cL : ClassId} {x : Nat} {A B : Nat → Nat} {ob : Nat} {M : Nat → Nat} {j h cells slots : Nat} {nc nt : Nat} {f g : Nat → Int32} {w : Nat → Int64} {nc2 nt2 : Nat} {f2 g2 : Nat → Int32} {th : Int32} {k : Nat → Int32} {H : Heap} {locs : List Loc} {ls : Array Slot} (EL : LE p l s m args c A0 b L xs D cI cC cT cL) (G : GS nc nt f g h) (hh : h < 2 ^ 28) (hcl : cells + 20 ≤ 601024) (hsl : slots + 200 ≤ 7293034) (hj : 4 * j + 4 ≤ L) (hL : L ≤ 2048) (kk : LK p l e s m args below meth c Q A0 b D cI cC cT cL x A B ob M j h cells slots) (hP : va_P D vwCl (LV cI cC cT cL x A B ob M nc nt f g w nc2 nt2 f2 g2 th nc nt f k g) H) (hD : va_D A0 (LV cI cC cT cL x A B ob M nc nt f g w nc2 nt2 f2 g2 th nc nt f k g)) (hS : va_S A0 s.heap H locs) (hl : lv_has ls 9 [(4, .int (nI (4 * j))), (3, .ref ob), (2, .ref (M 0)), (1, .ref x), (0, .ref b)]) : W p l e room_1 s m args below meth c H locs cells slots Q (F0 m 881 ls []) := by
  obtain ⟨hx, hb, hml, hown, hts, hK, hST, hX, hbl, hbA, hA, hl0⟩ := EL
  obtain ⟨u, hu9⟩ : ∃ u, u = xs (nI (4 * j) + 1).toNatClampNeg := ⟨_, rfl⟩
  obtain ⟨v, hv9⟩ : ∃ v, v = xs (nI (4 * j) + 2).toNatClampNeg := ⟨_, rfl⟩
  obtain ⟨z, hz9⟩ : ∃ z, z = xs (nI (4 * j) + 3).toNatClampNeg := ⟨_, rfl⟩
  have hin1 : vp_in (nI (4 * j) + 1) L := (nI_add (4 * j) 1).symm ▸ vp_in_nI (by omega) (by omega)
  have hin2 : vp_in (nI (4 * j) + 2) L := (nI_add (4 * j) 2).symm ▸ vp_in_nI (by omega) (by omega)
  have hin3 : vp_in (nI (4 * j) + 3) L := (nI_add (4 * j) 3).symm ▸ vp_in_nI (by omega) (by omega)
  refine lv_aload_n hx hb dL_law_881 rfl (lv_at hl 3 rfl) ?_
  refine lv_aload_n hx hb dL_law_882 rfl (lv_at hl 4 rfl) ?_
  refine lv_iload hx hb dL_law_883 (lv_at hl 0 rfl) ?_
  refine lv_iconst (v := 1) hx hb dL_law_885 (by decide) ?_
  refine lv_iadd hx hb dL_law_886 ?_
  refine va_sld hx hb hX hbl hbA hS hin1 dL_law_887 ?_
  rw [← hu9]
  refine lv_aload_n hx hb dL_law_888 rfl (lv_at hl 4 rfl) ?_
  refine lv_iload hx hb dL_law_889 (lv_at hl 0 rfl) ?_
  refine lv_iconst (v := 2) hx hb dL_law_891 (by decide) ?_
  refine lv_iadd hx hb dL_law_892 ?_
  refine va_sld hx hb hX hbl hbA hS hin2 dL_law_893 ?_
  rw [← hv9]
  refine lv_aload_n hx hb dL_law_894 rfl (lv_at hl 1 rfl) ?_
  refine c0_SW (As := [.ref x, .int u, .int v, .ref ob]) (rest := []) ⟨hx, hb, hml, hown, hts⟩ (wforesee l D cI cC cT cL hl0 x A B nc nt f g nc2 nt2 f2 g2 ob w u v G.1 G.2.1 G.2.2.1 G.2.2.2.1 h (by omega) G.2.2.2.2) (vx_cwSW 4 hts gL_law_L_foresee rfl rfl rfl pL_foresee ⟨Nat.le_of_ble_eq_true rfl, Nat.le_of_ble_eq_true rfl⟩) hK hP hD hS hA hST (J_f) rfl hl.1 rfl (Nat.le_of_ble_eq_true rfl) dL_law_895 ⟨(by show _ ≤ 601024; omega), (by show _ ≤ 7293034; omega)⟩ rfl (fun H locs hP hD hS => ?_)
  refine lv_istore (lv' := [(5, .int (nI (kFore u v))), (4, .int (nI (4 * j))), (3, .ref ob), (2, .ref (M 0)), (1, .ref x), (0, .ref b)]) hx hb dL_law_898 hl (by decide) rfl (fun ls hl => ?_)
  refine lv_aload_n hx hb dL_law_900 rfl (lv_at hl 3 rfl) ?_
  refine lv_aload_n hx hb dL_law_901 rfl (lv_at hl 5 rfl) ?_
  refine lv_iload hx hb dL_law_902 (lv_at hl 1 rfl) ?_
  refine lv_iconst (v := 1) hx hb dL_law_904 (by decide) ?_
  refine lv_iadd hx hb dL_law_905 ?_
  refine va_sld hx hb hX hbl hbA hS hin1 dL_law_906 ?_
  rw [← hu9]
  refine lv_aload_n hx hb dL_law_907 rfl (lv_at hl 5 rfl) ?_
  refine lv_iload hx hb dL_law_908 (lv_at hl 1 rfl) ?_
  refine lv_iconst (v := 2) hx hb dL_law_910 (by decide) ?_
  refine lv_iadd hx hb dL_law_911 ?_
  refine va_sld hx hb hX hbl hbA hS hin2 dL_law_912 ?_
  rw [← hv9]
  refine c0_V (As := [.int u, .int v]) (rest := []) ⟨hx, hb, hml, hown, hts⟩ (mX4_foresee l D cI cC cT cL M th nc nt f k g u v G.1 G.2.1 G.2.2.1 G.2.2.2.1 h (by omega) G.2.2.2.2) (cwV 2 hts gL_law_X4_foresee rfl rfl rfl pX4_foresee ⟨Nat.le_of_ble_eq_true rfl, Nat.le_of_ble_eq_true rfl⟩) hK hP hD hS hA hST (J_m) 0 rfl rfl rfl rfl hl.1 rfl (Nat.le_of_ble_eq_true rfl) dL_law_913 ⟨(by show _ ≤ 601024; omega), (by show _ ≤ 7293034; omega)⟩ rfl (fun H locs hP hD hS => ?_)
  refine lv_istore (lv' := [(6, .int (sel (kFore u v) (cntF nt (rep (hourF nc nt g) u.toNatClampNeg f) g v.toNatClampNeg) 0)), (5, .int (nI (kFore u v))), (4, .int (nI (4 * j))), (3, .ref ob), (2, .ref (M 0)), (1, .ref x), (0, .ref b)]) hx hb dL_law_916 hl (by decide) rfl (fun ls hl => ?_)
  refine lv_aload_n hx hb dL_law_918 rfl (lv_at hl 4 rfl) ?_
  refine c0_V (As := []) (rest := []) ⟨hx, hb, hml, hown, hts⟩ (mX4_thrown l D cI cC cT cL M (nI (kFore u v)) nc nt f (sel (kFore u v) (va_cpy f k 0 0 37) k) g) (cwV 0 hts gL_law_X4_thrown rfl rfl rfl pX4_thrown ⟨Nat.le_of_ble_eq_true rfl, Nat.le_of_ble_eq_true rfl⟩) hK hP hD hS hA hST (J_m) 0 rfl rfl rfl rfl hl.1 rfl (Nat.le_of_ble_eq_true rfl) dL_law_919 ⟨(by show _ ≤ 601024; omega), (by show _ ≤ 7293034; omega)⟩ rfl (fun H locs hP hD hS => ?_)
  refine lv_iload hx hb dL_law_922 (lv_at hl 1 rfl) ?_
  refine lv_icmp_eq (tgt := 929) hx hb dL_law_924 (by decide) (fun c_924 => ?_) (fun c_924 => ?_)
  rotate_left
  · exact absurd rfl c_924
  refine lv_iload hx hb dL_law_929 (lv_at hl 1 rfl) ?_
  refine lv_if_ne (tgt := 946) hx hb dL_law_931 (by decide) (fun c_931 => ?_) (fun c_931 => ?_)
  ·
    refine lv_goto (tgt := 1085) hx hb dL_law_946 (by decide) ?_
    obtain ⟨h9, hh9, G9⟩ := (⟨h, Nat.le_add_right _ _, G⟩ : ∃ h9, h9 ≤ h + 168 ∧ _)
    exact W.widen (by omega) (by omega) (kk _ _ _ _ _ _ _ _ _ _ _ h9 H locs ls G9 hh9 hP hD hS (lv_sub hl [2, 3, 4, 5, 6] rfl))
  ·
    have hK9 := K_0 (l_fore u v) c_931
    refine lv_aload_n hx hb dL_law_934 rfl (lv_at hl 3 rfl) ?_
    refine lv_iconst (v := 0) hx hb dL_law_935 (by decide) ?_
    refine w_lld hx hb hK hP 16 3 rfl rfl 0 rfl (by decide) (by decide) (v := (sel (kFore u v) (vp_updL w 0 ((cntF nt (rep (hourF nc nt g) u.toNatClampNeg f) g v.toNatClampNeg).toInt64)) w) 0) rfl dL_law_936 ?_
    refine lv_iload hx hb dL_law_937 (lv_at hl 0 rfl) ?_
    refine lv_i2l hx hb dL_law_939 rfl ?_
    refine W.lcmp hx hb dL_law_940 ?_
    refine lv_if_eq (tgt := 946) hx hb dL_law_941 (by decide) (fun c_941 => ?_) (fun c_941 => ?_)
    rotate_left
    · exact absurd (by rw [hK9, sel_0, sel_0, updL_0]; exact lg_self _) c_941
    refine lv_goto (tgt := 1085) hx hb dL_law_946 (by decide) ?_
    obtain ⟨h9, hh9, G9⟩ := (⟨h, Nat.le_add_right _ _, G⟩ : ∃ h9, h9 ≤ h + 168 ∧ _)
    exact W.widen (by omega) (by omega) (kk _ _ _ _ _ _ _ _ _ _ _ h9 H locs ls G9 hh9 hP hD hS (lv_sub hl [2, 3, 4, 5, 6] rfl))

set_option maxHeartbeats 4000000 in
set_option maxRecDepth 100000 in
theorem law_lasts {p : Program} {l : Launch} {e : Env} {s : State} {m : MethodId} {args : Array Value} {below : List Frame} {meth : Method} {c : Code} {Q : State → Prop} {A0 : Nat → Prop} {b L : Nat} {xs : Nat → Int32} {D : va_G} {cI cC cT cL : ClassId} {x : Nat} {A B : Nat → Nat} {ob : Nat} {M : Nat → Nat} {j h cells slots : Nat} {nc nt : Nat} {f g : Nat → Int32} {w : Nat → Int64} {nc2 nt2 : Nat} {f2 g2 : Nat → Int32} {th : Int32} {k : Nat → Int32} {H : Heap} {locs : List Loc} {ls : Array Slot} (EL : LE p l s m args c A0 b L xs D cI cC cT cL) (G : GS nc nt f g h) (hh : h < 2 ^ 28) (hcl : cells + 20 ≤ 601024) (hsl : slots + 200 ≤ 7293034) (hj : 4 * j + 4 ≤ L) (hL : L ≤ 2048) (kk : LK p l e s m args below meth c Q A0 b D cI cC cT cL x A B ob M j h cells slots) (hP : va_P D vwCl (LV cI cC cT cL x A B ob M nc nt f g w nc2 nt2 f2 g2 th nc nt f k g) H) (hD : va_D A0 (LV cI cC cT cL x A B ob M nc nt f g w nc2 nt2 f2 g2 th nc nt f k g)) (hS : va_S A0 s.heap H locs) (hl : lv_has ls 9 [(4, .int (nI (4 * j))), (3, .ref ob), (2, .ref (M 0)), (1, .ref x), (0, .ref b)]) : W p l e room_1 s m args below meth c H locs cells slots Q (F0 m 949 ls []) := by
  obtain ⟨hx, hb, hml, hown, hts, hK, hST, hX, hbl, hbA, hA, hl0⟩ := EL
  obtain ⟨u, hu9⟩ : ∃ u, u = xs (nI (4 * j) + 1).toNatClampNeg := ⟨_, rfl⟩
  obtain ⟨v, hv9⟩ : ∃ v, v = xs (nI (4 * j) + 2).toNatClampNeg := ⟨_, rfl⟩
  obtain ⟨z, hz9⟩ : ∃ z, z = xs (nI (4 * j) + 3).toNatClampNeg := ⟨_, rfl⟩
  have hin1 : vp_in (nI (4 * j) + 1) L := (nI_add (4 * j) 1).symm ▸ vp_in_nI (by omega) (by omega)
  have hin2 : vp_in (nI (4 * j) + 2) L := (nI_add (4 * j) 2).symm ▸ vp_in_nI (by omega) (by omega)
  have hin3 : vp_in (nI (4 * j) + 3) L := (nI_add (4 * j) 3).symm ▸ vp_in_nI (by omega) (by omega)
  refine lv_aload_n hx hb dL_law_949 rfl (lv_at hl 3 rfl) ?_
  refine c0_V (As := []) (rest := []) ⟨hx, hb, hml, hown, hts⟩ (mX3_lasts l D cI cC cT cL x (B 0) A nc nt f g h (by omega) G.2.2.2.2) (cwV 0 hts gL_law_X3_lasts rfl rfl rfl pX3_lasts ⟨Nat.le_of_ble_eq_true rfl, Nat.le_of_ble_eq_true rfl⟩) hK hP hD hS hA hST (J_y) 0 rfl rfl rfl rfl hl.1 rfl (Nat.le_of_ble_eq_true rfl) dL_law_950 ⟨(by show _ ≤ 601024; omega), (by show _ ≤ 7293034; omega)⟩ rfl (fun H locs hP hD hS => ?_)
  refine lv_aload_n hx hb dL_law_953 rfl (lv_at hl 2 rfl) ?_
  refine c0_V (As := []) (rest := [.int (fd0 (iceN f g h) 1000 0)]) ⟨hx, hb, hml, hown, hts⟩ (mX4_lasts l D cI cC cT cL M th nc nt f k g G.2.2.1 h (by omega) G.2.2.2.2) (cwV 0 hts gL_law_X4_lasts rfl rfl rfl pX4_lasts ⟨Nat.le_of_ble_eq_true rfl, Nat.le_of_ble_eq_true rfl⟩) hK hP hD hS hA hST (J_m) 0 rfl rfl rfl rfl hl.1 rfl (Nat.le_of_ble_eq_true rfl) dL_law_954 ⟨(by show _ ≤ 601024; omega), (by show _ ≤ 7293034; omega)⟩ rfl (fun H locs hP hD hS => ?_)
  refine lv_icmp_eq (tgt := 1085) hx hb dL_law_957 (by decide) (fun c_957 => ?_) (fun c_957 => ?_)
  rotate_left
  · exact absurd rfl c_957
  obtain ⟨h9, hh9, G9⟩ := (⟨h, Nat.le_add_right _ _, G⟩ : ∃ h9, h9 ≤ h + 168 ∧ _)
  exact W.widen (by omega) (by omega) (kk _ _ _ _ _ _ _ _ _ _ _ h9 H locs ls G9 hh9 hP hD hS (lv_sub hl [0, 1, 2, 3, 4] rfl))

set_option maxHeartbeats 4000000 in
set_option maxRecDepth 100000 in
theorem law_salt {p : Program} {l : Launch} {e : Env} {s : State} {m : MethodId} {args : Array Value} {below : List Frame} {meth : Method} {c : Code} {Q : State → Prop} {A0 : Nat → Prop} {b L : Nat} {xs : Nat → Int32} {D : va_G} {cI cC cT cL : ClassId} {x : Nat} {A B : Nat → Nat} {ob : Nat} {M : Nat → Nat} {j h cells slots : Nat} {nc nt : Nat} {f g : Nat → Int32} {w : Nat → Int64} {nc2 nt2 : Nat} {f2 g2 : Nat → Int32} {th : Int32} {k : Nat → Int32} {H : Heap} {locs : List Loc} {ls : Array Slot} (EL : LE p l s m args c A0 b L xs D cI cC cT cL) (G : GS nc nt f g h) (hh : h < 2 ^ 28) (hcl : cells + 20 ≤ 601024) (hsl : slots + 200 ≤ 7293034) (hj : 4 * j + 4 ≤ L) (hL : L ≤ 2048) (kk : LK p l e s m args below meth c Q A0 b D cI cC cT cL x A B ob M j h cells slots) (hP : va_P D vwCl (LV cI cC cT cL x A B ob M nc nt f g w nc2 nt2 f2 g2 th nc nt f k g) H) (hD : va_D A0 (LV cI cC cT cL x A B ob M nc nt f g w nc2 nt2 f2 g2 th nc nt f k g)) (hS : va_S A0 s.heap H locs) (hl : lv_has ls 9 [(4, .int (nI (4 * j))), (3, .ref ob), (2, .ref (M 0)), (1, .ref x), (0, .ref b)]) : W p l e room_1 s m args below meth c H locs cells slots Q (F0 m 962 ls []) := by
  obtain ⟨hx, hb, hml, hown, hts, hK, hST, hX, hbl, hbA, hA, hl0⟩ := EL
  obtain ⟨u, hu9⟩ : ∃ u, u = xs (nI (4 * j) + 1).toNatClampNeg := ⟨_, rfl⟩
  obtain ⟨v, hv9⟩ : ∃ v, v = xs (nI (4 * j) + 2).toNatClampNeg := ⟨_, rfl⟩
  obtain ⟨z, hz9⟩ : ∃ z, z = xs (nI (4 * j) + 3).toNatClampNeg := ⟨_, rfl⟩
  have hin1 : vp_in (nI (4 * j) + 1) L := (nI_add (4 * j) 1).symm ▸ vp_in_nI (by omega) (by omega)
  have hin2 : vp_in (nI (4 * j) + 2) L := (nI_add (4 * j) 2).symm ▸ vp_in_nI (by omega) (by omega)
  have hin3 : vp_in (nI (4 * j) + 3) L := (nI_add (4 * j) 3).symm ▸ vp_in_nI (by omega) (by omega)
  refine lv_aload_n hx hb dL_law_962 rfl (lv_at hl 3 rfl) ?_
  refine lv_aload_n hx hb dL_law_963 rfl (lv_at hl 4 rfl) ?_
  refine lv_iload hx hb dL_law_964 (lv_at hl 0 rfl) ?_
  refine lv_iconst (v := 1) hx hb dL_law_966 (by decide) ?_
  refine lv_iadd hx hb dL_law_967 ?_
  refine va_sld hx hb hX hbl hbA hS hin1 dL_law_968 ?_
  rw [← hu9]
  refine lv_aload_n hx hb dL_law_969 rfl (lv_at hl 4 rfl) ?_
  refine lv_iload hx hb dL_law_970 (lv_at hl 0 rfl) ?_
  refine lv_iconst (v := 2) hx hb dL_law_972 (by decide) ?_
  refine lv_iadd hx hb dL_law_973 ?_
  refine va_sld hx hb hX hbl hbA hS hin2 dL_law_974 ?_
  rw [← hv9]
  refine lv_aload_n hx hb dL_law_975 rfl (lv_at hl 1 rfl) ?_
  refine c0_SW (As := [.ref x, .int u, .int v, .ref ob]) (rest := []) ⟨hx, hb, hml, hown, hts⟩ (wsalt l D cI cC cT cL hl0 x (B 0) A nc nt f g ob w u v G.1) (vx_cwSW 4 hts gL_law_L_salt rfl rfl rfl pL_salt ⟨Nat.le_of_ble_eq_true rfl, Nat.le_of_ble_eq_true rfl⟩) hK hP hD hS hA hST (J_o) rfl hl.1 rfl (Nat.le_of_ble_eq_true rfl) dL_law_976 ⟨(by show _ ≤ 601024; omega), (by show _ ≤ 7293034; omega)⟩ rfl (fun H locs hP hD hS => ?_)
  refine lv_istore (lv' := [(5, .int (nI (kSalt nc u v))), (4, .int (nI (4 * j))), (3, .ref ob), (2, .ref (M 0)), (1, .ref x), (0, .ref b)]) hx hb dL_law_979 hl (by decide) rfl (fun ls hl => ?_)
  refine lv_aload_n hx hb dL_law_981 rfl (lv_at hl 3 rfl) ?_
  refine lv_aload_n hx hb dL_law_982 rfl (lv_at hl 5 rfl) ?_
  refine lv_iload hx hb dL_law_983 (lv_at hl 1 rfl) ?_
  refine lv_iconst (v := 1) hx hb dL_law_985 (by decide) ?_
  refine lv_iadd hx hb dL_law_986 ?_
  refine va_sld hx hb hX hbl hbA hS hin1 dL_law_987 ?_
  rw [← hu9]
  refine lv_aload_n hx hb dL_law_988 rfl (lv_at hl 5 rfl) ?_
  refine lv_iload hx hb dL_law_989 (lv_at hl 1 rfl) ?_
  refine lv_iconst (v := 2) hx hb dL_law_991 (by decide) ?_
  refine lv_iadd hx hb dL_law_992 ?_
  refine va_sld hx hb hX hbl hbA hS hin2 dL_law_993 ?_
  rw [← hv9]
  refine c0_V (As := [.int u, .int v]) (rest := []) ⟨hx, hb, hml, hown, hts⟩ (mX4_salt l D cI cC cT cL M th nc nt f k g u v G.1 G.2.2.1) (cwV 2 hts gL_law_X4_salt rfl rfl rfl pX4_salt ⟨Nat.le_of_ble_eq_true rfl, Nat.le_of_ble_eq_true rfl⟩) hK hP hD hS hA hST (J_m) 0 rfl rfl rfl rfl hl.1 rfl (Nat.le_of_ble_eq_true rfl) dL_law_994 ⟨(by show _ ≤ 601024; omega), (by show _ ≤ 7293034; omega)⟩ rfl (fun H locs hP hD hS => ?_)
  refine lv_istore (lv' := [(6, .int (sel (kSalt nc u v) (saltR f u.toNatClampNeg v) 0)), (5, .int (nI (kSalt nc u v))), (4, .int (nI (4 * j))), (3, .ref ob), (2, .ref (M 0)), (1, .ref x), (0, .ref b)]) hx hb dL_law_997 hl (by decide) rfl (fun ls hl => ?_)
  refine lv_aload_n hx hb dL_law_999 rfl (lv_at hl 4 rfl) ?_
  refine c0_V (As := []) (rest := []) ⟨hx, hb, hml, hown, hts⟩ (mX4_thrown l D cI cC cT cL M (nI (kSalt nc u v)) nc nt f k g) (cwV 0 hts gL_law_X4_thrown rfl rfl rfl pX4_thrown ⟨Nat.le_of_ble_eq_true rfl, Nat.le_of_ble_eq_true rfl⟩) hK hP hD hS hA hST (J_m) 0 rfl rfl rfl rfl hl.1 rfl (Nat.le_of_ble_eq_true rfl) dL_law_1000 ⟨(by show _ ≤ 601024; omega), (by show _ ≤ 7293034; omega)⟩ rfl (fun H locs hP hD hS => ?_)
  refine lv_iload hx hb dL_law_1003 (lv_at hl 1 rfl) ?_
  refine lv_icmp_eq (tgt := 1010) hx hb dL_law_1005 (by decide) (fun c_1005 => ?_) (fun c_1005 => ?_)
  rotate_left
  · exact absurd rfl c_1005
  refine lv_iload hx hb dL_law_1010 (lv_at hl 1 rfl) ?_
  refine lv_if_ne (tgt := 1027) hx hb dL_law_1012 (by decide) (fun c_1012 => ?_) (fun c_1012 => ?_)
  ·
    refine lv_goto (tgt := 1085) hx hb dL_law_1027 (by decide) ?_
    obtain ⟨h9, hh9, G9⟩ := (⟨h, Nat.le_add_right _ _, G⟩ : ∃ h9, h9 ≤ h + 168 ∧ _)
    exact W.widen (by omega) (by omega) (kk _ _ _ _ _ _ _ _ _ _ _ h9 H locs ls G9 hh9 hP hD hS (lv_sub hl [2, 3, 4, 5, 6] rfl))
  ·
    have hK9 := K_0 (l_salt nc u v) c_1012
    refine lv_aload_n hx hb dL_law_1015 rfl (lv_at hl 3 rfl) ?_
    refine lv_iconst (v := 0) hx hb dL_law_1016 (by decide) ?_
    refine w_lld hx hb hK hP 16 3 rfl rfl 0 rfl (by decide) (by decide) (v := (sel (kSalt nc u v) (vp_updL w 0 ((saltR f u.toNatClampNeg v).toInt64)) w) 0) rfl dL_law_1017 ?_
    refine lv_iload hx hb dL_law_1018 (lv_at hl 0 rfl) ?_
    refine lv_i2l hx hb dL_law_1020 rfl ?_
    refine W.lcmp hx hb dL_law_1021 ?_
    refine lv_if_eq (tgt := 1027) hx hb dL_law_1022 (by decide) (fun c_1022 => ?_) (fun c_1022 => ?_)
    rotate_left
    · exact absurd (by rw [hK9, sel_0, sel_0, updL_0]; exact lg_self _) c_1022
    refine lv_goto (tgt := 1085) hx hb dL_law_1027 (by decide) ?_
    obtain ⟨h9, hh9, G9⟩ := (⟨h, Nat.le_add_right _ _, G⟩ : ∃ h9, h9 ≤ h + 168 ∧ _)
    exact W.widen (by omega) (by omega) (kk _ _ _ _ _ _ _ _ _ _ _ h9 H locs ls G9 hh9 hP hD hS (lv_sub hl [2, 3, 4, 5, 6] rfl))

set_option maxHeartbeats 4000000 in
set_option maxRecDepth 100000 in
theorem law_share {p : Program} {l : Launch} {e : Env} {s : State} {m : MethodId} {args : Array Value} {below : List Frame} {meth : Method} {c : Code} {Q : State → Prop} {A0 : Nat → Prop} {b L : Nat} {xs : Nat → Int32} {D : va_G} {cI cC cT cL : ClassId} {x : Nat} {A B : Nat → Nat} {ob : Nat} {M : Nat → Nat} {j h cells slots : Nat} {nc nt : Nat} {f g : Nat → Int32} {w : Nat → Int64} {nc2 nt2 : Nat} {f2 g2 : Nat → Int32} {th : Int32} {k : Nat → Int32} {H : Heap} {locs : List Loc} {ls : Array Slot} (EL : LE p l s m args c A0 b L xs D cI cC cT cL) (G : GS nc nt f g h) (hh : h < 2 ^ 28) (hcl : cells + 20 ≤ 601024) (hsl : slots + 200 ≤ 7293034) (hj : 4 * j + 4 ≤ L) (hL : L ≤ 2048) (kk : LK p l e s m args below meth c Q A0 b D cI cC cT cL x A B ob M j h cells slots) (hP : va_P D vwCl (LV cI cC cT cL x A B ob M nc nt f g w nc2 nt2 f2 g2 th nc nt f k g) H) (hD : va_D A0 (LV cI cC cT cL x A B ob M nc nt f g w nc2 nt2 f2 g2 th nc nt f k g)) (hS : va_S A0 s.heap H locs) (hl : lv_has ls 9 [(4, .int (nI (4 * j))), (3, .ref ob), (2, .ref (M 0)), (1, .ref x), (0, .ref b)]) : W p l e room_1 s m args below meth c H locs cells slots Q (F0 m 1030 ls []) := by
  obtain ⟨hx, hb, hml, hown, hts, hK, hST, hX, hbl, hbA, hA, hl0⟩ := EL
  obtain ⟨u, hu9⟩ : ∃ u, u = xs (nI (4 * j) + 1).toNatClampNeg := ⟨_, rfl⟩
  obtain ⟨v, hv9⟩ : ∃ v, v = xs (nI (4 * j) + 2).toNatClampNeg := ⟨_, rfl⟩
  obtain ⟨z, hz9⟩ : ∃ z, z = xs (nI (4 * j) + 3).toNatClampNeg := ⟨_, rfl⟩
  have hin1 : vp_in (nI (4 * j) + 1) L := (nI_add (4 * j) 1).symm ▸ vp_in_nI (by omega) (by omega)
  have hin2 : vp_in (nI (4 * j) + 2) L := (nI_add (4 * j) 2).symm ▸ vp_in_nI (by omega) (by omega)
  have hin3 : vp_in (nI (4 * j) + 3) L := (nI_add (4 * j) 3).symm ▸ vp_in_nI (by omega) (by omega)
  refine lv_aload_n hx hb dL_law_1030 rfl (lv_at hl 3 rfl) ?_
  refine c0_V (As := []) (rest := []) ⟨hx, hb, hml, hown, hts⟩ (mX3_share l D cI cC cT cL x (B 0) A nc nt f g G.2.1) (cwV 0 hts gL_law_X3_share rfl rfl rfl pX3_share ⟨Nat.le_of_ble_eq_true rfl, Nat.le_of_ble_eq_true rfl⟩) hK hP hD hS hA hST (J_y) 0 rfl rfl rfl rfl hl.1 rfl (Nat.le_of_ble_eq_true rfl) dL_law_1031 ⟨(by show _ ≤ 601024; omega), (by show _ ≤ 7293034; omega)⟩ rfl (fun H locs hP hD hS => ?_)
  refine lv_dstore (lv' := [(5, .double (shareF nt f)), (4, .int (nI (4 * j))), (3, .ref ob), (2, .ref (M 0)), (1, .ref x), (0, .ref b)]) hx hb dL_law_1034 hl (by decide) rfl (fun ls hl => ?_)
  refine lv_aload_n hx hb dL_law_1036 rfl (lv_at hl 3 rfl) ?_
  refine c0_V (As := []) (rest := []) ⟨hx, hb, hml, hown, hts⟩ (mX4_share l D cI cC cT cL M th nc nt f k g G.2.1) (cwV 0 hts gL_law_X4_share rfl rfl rfl pX4_share ⟨Nat.le_of_ble_eq_true rfl, Nat.le_of_ble_eq_true rfl⟩) hK hP hD hS hA hST (J_m) 0 rfl rfl rfl rfl hl.1 rfl (Nat.le_of_ble_eq_true rfl) dL_law_1037 ⟨(by show _ ≤ 601024; omega), (by show _ ≤ 7293034; omega)⟩ rfl (fun H locs hP hD hS => ?_)
  refine lv_dstore (lv' := [(7, .double (shareF nt f)), (5, .double (shareF nt f)), (4, .int (nI (4 * j))), (3, .ref ob), (2, .ref (M 0)), (1, .ref x), (0, .ref b)]) hx hb dL_law_1040 hl (by decide) rfl (fun ls hl => ?_)
  refine lv_dload hx hb dL_law_1042 (lv_at hl 1 rfl) ?_
  refine lv_dload hx hb dL_law_1044 (lv_at hl 0 rfl) ?_
  refine lv_dcmp hx hb dL_law_1046 ?_
  refine lv_if_eq (tgt := 1068) hx hb dL_law_1047 (by decide) (fun c_1047 => ?_) (fun c_1047 => ?_)
  ·
    refine lv_goto (tgt := 1085) hx hb dL_law_1068 (by decide) ?_
    obtain ⟨h9, hh9, G9⟩ := (⟨h, Nat.le_add_right _ _, G⟩ : ∃ h9, h9 ≤ h + 168 ∧ _)
    exact W.widen (by omega) (by omega) (kk _ _ _ _ _ _ _ _ _ _ _ h9 H locs ls G9 hh9 hP hD hS (lv_sub hl [2, 3, 4, 5, 6] rfl))
  ·
    refine lv_dload hx hb dL_law_1050 (lv_at hl 1 rfl) ?_
    refine lv_dload hx hb dL_law_1052 (lv_at hl 1 rfl) ?_
    refine lv_dcmp hx hb dL_law_1054 ?_
    refine lv_if_eq (tgt := 1066) hx hb dL_law_1055 (by decide) (fun c_1055 => ?_) (fun c_1055 => ?_)
    · exact absurd c_1055 c_1047
    refine lv_dload hx hb dL_law_1058 (lv_at hl 0 rfl) ?_
    refine lv_dload hx hb dL_law_1060 (lv_at hl 0 rfl) ?_
    refine lv_dcmp hx hb dL_law_1062 ?_
    refine lv_if_ne (tgt := 1068) hx hb dL_law_1063 (by decide) (fun c_1063 => ?_) (fun c_1063 => ?_)
    rotate_left
    · exact absurd c_1063 c_1047
    refine lv_goto (tgt := 1085) hx hb dL_law_1068 (by decide) ?_
    obtain ⟨h9, hh9, G9⟩ := (⟨h, Nat.le_add_right _ _, G⟩ : ∃ h9, h9 ≤ h + 168 ∧ _)
    exact W.widen (by omega) (by omega) (kk _ _ _ _ _ _ _ _ _ _ _ h9 H locs ls G9 hh9 hP hD hS (lv_sub hl [2, 3, 4, 5, 6] rfl))

set_option maxHeartbeats 4000000 in
set_option maxRecDepth 100000 in
theorem law_digest {p : Program} {l : Launch} {e : Env} {s : State} {m : MethodId} {args : Array Value} {below : List Frame} {meth : Method} {c : Code} {Q : State → Prop} {A0 : Nat → Prop} {b L : Nat} {xs : Nat → Int32} {D : va_G} {cI cC cT cL : ClassId} {x : Nat} {A B : Nat → Nat} {ob : Nat} {M : Nat → Nat} {j h cells slots : Nat} {nc nt : Nat} {f g : Nat → Int32} {w : Nat → Int64} {nc2 nt2 : Nat} {f2 g2 : Nat → Int32} {th : Int32} {k : Nat → Int32} {H : Heap} {locs : List Loc} {ls : Array Slot} (EL : LE p l s m args c A0 b L xs D cI cC cT cL) (G : GS nc nt f g h) (hh : h < 2 ^ 28) (hcl : cells + 20 ≤ 601024) (hsl : slots + 200 ≤ 7293034) (hj : 4 * j + 4 ≤ L) (hL : L ≤ 2048) (kk : LK p l e s m args below meth c Q A0 b D cI cC cT cL x A B ob M j h cells slots) (hP : va_P D vwCl (LV cI cC cT cL x A B ob M nc nt f g w nc2 nt2 f2 g2 th nc nt f k g) H) (hD : va_D A0 (LV cI cC cT cL x A B ob M nc nt f g w nc2 nt2 f2 g2 th nc nt f k g)) (hS : va_S A0 s.heap H locs) (hl : lv_has ls 9 [(4, .int (nI (4 * j))), (3, .ref ob), (2, .ref (M 0)), (1, .ref x), (0, .ref b)]) : W p l e room_1 s m args below meth c H locs cells slots Q (F0 m 1071 ls []) := by
  obtain ⟨hx, hb, hml, hown, hts, hK, hST, hX, hbl, hbA, hA, hl0⟩ := EL
  obtain ⟨u, hu9⟩ : ∃ u, u = xs (nI (4 * j) + 1).toNatClampNeg := ⟨_, rfl⟩
  obtain ⟨v, hv9⟩ : ∃ v, v = xs (nI (4 * j) + 2).toNatClampNeg := ⟨_, rfl⟩
  obtain ⟨z, hz9⟩ : ∃ z, z = xs (nI (4 * j) + 3).toNatClampNeg := ⟨_, rfl⟩
  have hin1 : vp_in (nI (4 * j) + 1) L := (nI_add (4 * j) 1).symm ▸ vp_in_nI (by omega) (by omega)
  have hin2 : vp_in (nI (4 * j) + 2) L := (nI_add (4 * j) 2).symm ▸ vp_in_nI (by omega) (by omega)
  have hin3 : vp_in (nI (4 * j) + 3) L := (nI_add (4 * j) 3).symm ▸ vp_in_nI (by omega) (by omega)
  refine lv_aload_n hx hb dL_law_1071 rfl (lv_at hl 3 rfl) ?_
  refine c0_V (As := []) (rest := []) ⟨hx, hb, hml, hown, hts⟩ (mX3_digest l D cI cC cT cL x (B 0) A nc nt f g G.1 G.2.1 h (by omega) G.2.2.2.2) (cwV 0 hts gL_law_X3_digest rfl rfl rfl pX3_digest ⟨Nat.le_of_ble_eq_true rfl, Nat.le_of_ble_eq_true rfl⟩) hK hP hD hS hA hST (J_y) 0 rfl rfl rfl rfl hl.1 rfl (Nat.le_of_ble_eq_true rfl) dL_law_1072 ⟨(by show _ ≤ 601024; omega), (by show _ ≤ 7293034; omega)⟩ rfl (fun H locs hP hD hS => ?_)
  refine lv_aload_n hx hb dL_law_1075 rfl (lv_at hl 2 rfl) ?_
  refine c0_V (As := []) (rest := [.long (digF nc nt f g)]) ⟨hx, hb, hml, hown, hts⟩ (mX4_digest l D cI cC cT cL M th nc nt f k g G.1 G.2.1 h (by omega) G.2.2.2.2) (cwV 0 hts gL_law_X4_digest rfl rfl rfl pX4_digest ⟨Nat.le_of_ble_eq_true rfl, Nat.le_of_ble_eq_true rfl⟩) hK hP hD hS hA hST (J_m) 0 rfl rfl rfl rfl hl.1 rfl (Nat.le_of_ble_eq_true rfl) dL_law_1076 ⟨(by show _ ≤ 601024; omega), (by show _ ≤ 7293034; omega)⟩ rfl (fun H locs hP hD hS => ?_)
  refine W.lcmp hx hb dL_law_1079 ?_
  refine lv_if_eq (tgt := 1085) hx hb dL_law_1080 (by decide) (fun c_1080 => ?_) (fun c_1080 => ?_)
  rotate_left
  · exact absurd (lg_self _) c_1080
  obtain ⟨h9, hh9, G9⟩ := (⟨h, Nat.le_add_right _ _, G⟩ : ∃ h9, h9 ≤ h + 168 ∧ _)
  exact W.widen (by omega) (by omega) (kk _ _ _ _ _ _ _ _ _ _ _ h9 H locs ls G9 hh9 hP hD hS (lv_sub hl [0, 1, 2, 3, 4] rfl))
