theorem pm_w (a b m o : va_W) : (((a ++ b) ++ m) ++ o).Perm (((a ++ o) ++ b) ++ m) := by
  have e1 : (((a ++ b) ++ m) ++ o) = a ++ ((b ++ m) ++ o) := by simp only [List.append_assoc]
  have e2 : (((a ++ o) ++ b) ++ m) = a ++ (o ++ (b ++ m)) := by simp only [List.append_assoc]
  rw [e1, e2]
  exact List.perm_append_comm.append_left a
theorem P_pm {D : va_G} {ws ws' : va_W} {H : Heap} (hp : ws.Perm ws') (h : va_P D vwCl ws H) : va_P D vwCl ws' H := fun k q hq => by
  obtain ⟨j, hj⟩ := List.getElem?_of_mem (hp.mem_iff.mpr (List.mem_of_getElem? hq))
  exact h j q hj
theorem D_pm {A : Nat → Prop} {ws ws' : va_W} (hp : ws.Perm ws') (h : va_D A ws) : va_D A ws' := by
  obtain ⟨h1, h2⟩ := dn_of h
  exact dn_to ((hp.map _).nodup_iff.mp h1) (fun q hq => h2 q (hp.mem_iff.mpr hq))
theorem gs_0 : GS 0 0 (fun _ => 0) (fun _ => 20) 0 := by
  have z : ∀ n : Nat, Bd0 0 n := fun n => ⟨by decide, by rw [show (0 : Int32).toInt = 0 by decide]; omega⟩
  refine ⟨by decide, by decide, ⟨⟨z 900, z 300, z 300, z 300⟩, fun i _ => ⟨z 30, z 20, z 100⟩, fun i _ => ⟨z 60, z 100⟩⟩, fun k _ => ?_, rfl⟩
  show Bd0 20 40
  exact ⟨by decide, by decide⟩
theorem end_le {L j : Nat} (hL : L ≤ 2048) (hj : 4 * j ≤ L) (h : ¬ Int32.ofNat L - 4 < nI (4 * j)) : 4 * j + 4 ≤ L := by
  have e4 : (4 : Int32) = nI 4 := rfl
  have eL : Int32.ofNat L = nI L := rfl
  rw [e4, eL, i_lt, pk_sub_toInt (by omega) (by decide), nI_toInt (by omega)] at h
  omega

set_option maxHeartbeats 4000000 in
set_option maxRecDepth 100000 in
theorem law_loop {p : Program} {l : Launch} {e : Env} {s : State} {m : MethodId} {args : Array Value} {below : List Frame} {meth : Method} {c : Code} {Q : State → Prop} {A0 : Nat → Prop} {b L : Nat} {xs : Nat → Int32} {D : va_G} {cI cC cT cL : ClassId} {x : Nat} {A B : Nat → Nat} {ob : Nat} {M : Nat → Nat} (EL : LE p l s m args c A0 b L xs D cI cC cT cL) (hL : L ≤ 2048) (kend : ∀ (H : Heap) (locs : List Loc) (ls : Array Slot), va_S A0 s.heap H locs → W p l e room_1 s m args below meth c H locs 601024 7293034 Q (F0 m 1092 ls [.int 1])) :
    ∀ (n j : Nat), j + n = 513 → 4 * j ≤ L → ∀ (nc nt : Nat) (f g : Nat → Int32) (w : Nat → Int64) (nc2 nt2 : Nat) (f2 g2 : Nat → Int32) (th : Int32) (k : Nat → Int32) (h cells slots : Nat) (H : Heap) (locs : List Loc) (ls : Array Slot), GS nc nt f g h → h ≤ 168 * j → cells ≤ 1000 + 20 * j → slots ≤ 10000 + 200 * j →
      va_P D vwCl (LV cI cC cT cL x A B ob M nc nt f g w nc2 nt2 f2 g2 th nc nt f k g) H → va_D A0 (LV cI cC cT cL x A B ob M nc nt f g w nc2 nt2 f2 g2 th nc nt f k g) → va_S A0 s.heap H locs → lv_has ls 9 [(4, .int (nI (4 * j))), (3, .ref ob), (2, .ref (M 0)), (1, .ref x), (0, .ref b)] → W p l e room_1 s m args below meth c H locs cells slots Q (F0 m 23 ls []) := by
  intro n
  induction n with
  | zero =>
    intro j hn hj
    omega
  | succ n ih =>
    intro j hn hj nc nt f g w nc2 nt2 f2 g2 th k h cells slots H locs ls G hh hc hs hP hD hS hl
    have EL9 := EL
    obtain ⟨hx, hb, hml, hown, hts, hK, hST, hX, hbl, hbA, hA, hl0⟩ := EL9
    refine lv_iload hx hb dL_law_23 (lv_at hl 0 rfl) ?_
    refine lv_aload_n hx hb dL_law_25 rfl (lv_at hl 4 rfl) ?_
    refine va_slen hx hb hX hbl hbA hS dL_law_26 ?_
    refine lv_iconst (v := 4) hx hb dL_law_27 (by decide) ?_
    refine lv_isub hx hb dL_law_28 ?_
    refine lv_icmp_gt (tgt := 1091) hx hb dL_law_29 (by decide) (fun c_29 => ?_) (fun c_29 => ?_)
    · refine lv_iconst (v := 1) hx hb dL_law_1091 (by decide) ?_
      exact W.widen (by omega) (by omega) (kend H locs ls hS)
    · have hj4 : 4 * j + 4 ≤ L := end_le hL hj c_29
      have kk : LK p l e s m args below meth c Q A0 b D cI cC cT cL x A B ob M j h cells slots := by
        intro nc nt f g w nc2 nt2 f2 g2 th k h' H locs ls G hle hP hD hS hl
        refine lv_iinc (v := nI (4 * (j + 1))) (lv' := [(4, .int (nI (4 * (j + 1)))), (3, .ref ob), (2, .ref (M 0)), (1, .ref x), (0, .ref b)]) hx hb dL_law_1085 hl (k := 0) rfl (nI_add (4 * j) 4) (by decide) rfl (fun ls hl => ?_)
        refine lv_goto (tgt := 23) hx hb dL_law_1088 (by decide) ?_
        exact ih (j + 1) (by omega) (by omega) _ _ _ _ _ _ _ _ _ _ _ h' _ _ _ _ _ G (by omega) (by omega) (by omega) hP hD hS hl
      refine lv_aload_n hx hb dL_law_32 rfl (lv_at hl 4 rfl) ?_
      refine lv_iload hx hb dL_law_33 (lv_at hl 0 rfl) ?_
      refine va_sld hx hb hX hbl hbA hS (vp_in_nI (by omega) (by omega)) dL_law_35 ?_
      refine lv_bipush (v := 31) hx hb dL_law_36 (by decide) ?_
      refine lv_iand hx hb dL_law_38 ?_
      obtain ⟨q, hq, eq⟩ := pk_andE (xs (nI (4 * j)).toNatClampNeg) (m := 31) 5 (by decide)
      rw [eq]
      rcases (show q = 0 ∨ q = 1 ∨ q = 2 ∨ q = 3 ∨ q = 4 ∨ q = 5 ∨ q = 6 ∨ q = 7 ∨ q = 8 ∨ q = 9 ∨ q = 10 ∨ q = 11 ∨ q = 12 ∨ q = 13 ∨ q = 14 ∨ q = 15 ∨ q = 16 ∨ q = 17 ∨ 18 ≤ q by omega) with rfl | rfl | rfl | rfl | rfl | rfl | rfl | rfl | rfl | rfl | rfl | rfl | rfl | rfl | rfl | rfl | rfl | rfl | hq18
      · refine lv_tableIn (off := 85) (tgt := 124) hx hb dL_law_39 (by decide) (by decide) (by decide) (by decide) ?_
        exact law_bring EL G (by omega) (by omega) (by omega) hj4 hL kk hP hD hS hl
      · refine lv_tableIn (off := 153) (tgt := 192) hx hb dL_law_39 (by decide) (by decide) (by decide) (by decide) ?_
        exact law_setHeat EL G (by omega) (by omega) (by omega) hj4 hL kk hP hD hS hl
      · refine lv_tableIn (off := 221) (tgt := 260) hx hb dL_law_39 (by decide) (by decide) (by decide) (by decide) ?_
        exact law_churn EL G (by omega) (by omega) (by omega) hj4 hL kk hP hD hS hl
      · refine lv_tableIn (off := 265) (tgt := 304) hx hb dL_law_39 (by decide) (by decide) (by decide) (by decide) ?_
        exact law_tub EL G (by omega) (by omega) (by omega) hj4 hL kk hP hD hS hl
      · refine lv_tableIn (off := 309) (tgt := 348) hx hb dL_law_39 (by decide) (by decide) (by decide) (by decide) ?_
        exact law_pack EL G (by omega) (by omega) (by omega) hj4 hL kk hP hD hS hl
      · refine lv_tableIn (off := 389) (tgt := 428) hx hb dL_law_39 (by decide) (by decide) (by decide) (by decide) ?_
        exact law_pour EL G (by omega) (by omega) (by omega) hj4 hL kk hP hD hS hl
      · refine lv_tableIn (off := 457) (tgt := 496) hx hb dL_law_39 (by decide) (by decide) (by decide) (by decide) ?_
        exact law_scoop EL G (by omega) (by omega) (by omega) hj4 hL kk hP hD hS hl
      · refine lv_tableIn (off := 525) (tgt := 564) hx hb dL_law_39 (by decide) (by decide) (by decide) (by decide) ?_
        exact law_told EL G (by omega) (by omega) (by omega) hj4 hL kk hP hD hS hl
      · refine lv_tableIn (off := 593) (tgt := 632) hx hb dL_law_39 (by decide) (by decide) (by decide) (by decide) ?_
        exact law_about EL G (by omega) (by omega) (by omega) hj4 hL kk hP hD hS hl
      · refine lv_tableIn (off := 661) (tgt := 700) hx hb dL_law_39 (by decide) (by decide) (by decide) (by decide) ?_
        exact law_count EL G (by omega) (by omega) (by omega) hj4 hL kk hP hD hS hl
      · refine lv_tableIn (off := 717) (tgt := 756) hx hb dL_law_39 (by decide) (by decide) (by decide) (by decide) ?_
        exact law_next EL G (by omega) (by omega) (by omega) hj4 hL kk hP hD hS hl
      · refine lv_tableIn (off := 730) (tgt := 769) hx hb dL_law_39 (by decide) (by decide) (by decide) (by decide) ?_
        exact law_pass EL G (by omega) (by omega) (by omega) hj4 hL kk hP hD hS hl
      · refine lv_tableIn (off := 786) (tgt := 825) hx hb dL_law_39 (by decide) (by decide) (by decide) (by decide) ?_
        exact law_done EL G (by omega) (by omega) (by omega) hj4 hL kk hP hD hS hl
      · refine lv_tableIn (off := 842) (tgt := 881) hx hb dL_law_39 (by decide) (by decide) (by decide) (by decide) ?_
        exact law_foresee EL G (by omega) (by omega) (by omega) hj4 hL kk hP hD hS hl
      · refine lv_tableIn (off := 910) (tgt := 949) hx hb dL_law_39 (by decide) (by decide) (by decide) (by decide) ?_
        exact law_lasts EL G (by omega) (by omega) (by omega) hj4 hL kk hP hD hS hl
      · refine lv_tableIn (off := 923) (tgt := 962) hx hb dL_law_39 (by decide) (by decide) (by decide) (by decide) ?_
        exact law_salt EL G (by omega) (by omega) (by omega) hj4 hL kk hP hD hS hl
      · refine lv_tableIn (off := 991) (tgt := 1030) hx hb dL_law_39 (by decide) (by decide) (by decide) (by decide) ?_
        exact law_share EL G (by omega) (by omega) (by omega) hj4 hL kk hP hD hS hl
      · refine lv_tableIn (off := 1032) (tgt := 1071) hx hb dL_law_39 (by decide) (by decide) (by decide) (by decide) ?_
        exact law_digest EL G (by omega) (by omega) (by omega) hj4 hL kk hP hD hS hl
      · refine lv_tableOut (tgt := 1085) hx hb dL_law_39 (Or.inr (by rw [nI_toInt (by omega)]; omega)) (by decide) ?_
        exact W.widen (by omega) (by omega) (kk _ _ _ _ _ _ _ _ _ _ _ h H locs ls G (by omega) hP hD hS hl)
