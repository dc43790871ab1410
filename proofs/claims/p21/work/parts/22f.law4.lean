set_option maxHeartbeats 4000000 in
set_option maxRecDepth 100000 in
theorem law_4 {p : Program} {l : Launch} {e : Env} {s : State} {m : MethodId} {args : Array Value} {below : List Frame} {meth : Method} {c : Code} {Q : State → Prop} {A0 : Nat → Prop} {b L : Nat} {xs : Nat → Int32} {D : va_G} {cI cC cT cL : ClassId} {x mo wh : Nat} {A B : Nat → Nat} {time cE sE cells slots : Nat} {S C T : Nat → Nat} {nc nt h : Nat} {f g : Nat → Int32} {nc2 nt2 : Nat} {f2 g2 : Nat → Int32} {H : Heap} {locs : List Loc} {ls : Array Slot} {qc qt qh qn qd : Nat} {r r2 : Nat → Nat} {th dn : Nat → Int32} (EL : LE p l s m args c A0 b L xs D cI cC cT cL) (ht : time < 60) (hh : h ≤ 60 + time) (G : GS2 nc nt f g h) (hcE : cE ≤ 600130) (hsE : sE ≤ 7301080) (hcl : cells + 96 ≤ cE) (hsl : slots + 576 ≤ sE) (K : LK p l e s m args below meth c Q A0 b D cI cC cT cL x mo wh A B (time + 1) cE sE) (hth : ∀ i, i < 5 → th (wN i) = cntF nt (hourF nc nt g f) g (wN i)) (hdn : ∀ i, i < nc → dn i = doneC f g h i) (hP : va_P D vwCl (([(mo, .inl (cI, 6, .inl mostA)), (wh, .inl (cI, 5, .inl (fun i => nI (wN i)))), (qc, .inl (cL, nc, .inr (.inr (.inr (.inr (fun i => some (r i))))))), (qt, .inl (cL, nt, .inr (.inr (.inr (.inr (fun i => some (r2 i))))))), (qh, .inl (cI, 10, .inl (cntF nt f g))), (qn, .inl (cI, 10, .inl th)), (qd, .inl (cI, nc, .inl dn))] : va_W) ++ (RT cI r2 f nt ++ (RC cI r f nc ++ ((YW cI cC cT x A (B 0) nc nt f g ++ CW cI cC cT B nc2 nt2 f2 g2) ++ (SM cI cL S C T nc nt f g))))) H) (hD : va_D A0 (([(mo, .inl (cI, 6, .inl mostA)), (wh, .inl (cI, 5, .inl (fun i => nI (wN i)))), (qc, .inl (cL, nc, .inr (.inr (.inr (.inr (fun i => some (r i))))))), (qt, .inl (cL, nt, .inr (.inr (.inr (.inr (fun i => some (r2 i))))))), (qh, .inl (cI, 10, .inl (cntF nt f g))), (qn, .inl (cI, 10, .inl th)), (qd, .inl (cI, nc, .inl dn))] : va_W) ++ (RT cI r2 f nt ++ (RC cI r f nc ++ ((YW cI cC cT x A (B 0) nc nt f g ++ CW cI cC cT B nc2 nt2 f2 g2) ++ (SM cI cL S C T nc nt f g)))))) (hS : va_S A0 s.heap H locs) (hl : lv_has ls 30 [(17, .ref qd), (16, .int (fd0 (iceN f g h) 1000 0)), (15, .int (nxt f nt)), (14, .ref qn), (11, .ref qh), (10, .ref qt), (9, .ref qc), (8, .int (nI nt)), (7, .int (nI nc)), (5, .int (nI time)), (4, .ref wh), (3, .ref mo), (2, .ref (S 0)), (1, .ref x), (0, .ref b)]) : W p l e room_1 s m args below meth c H locs cells slots Q (F0 m 494 ls []) := by
  obtain ⟨hx, hb, hml, hown, hts, hK, hST, hX, hbl, hbA, hA, hl0, hN⟩ := id EL
  have hAA : va_AOA .int s := hST.2.2.2.2.2.2.2.2.2.1
  obtain ⟨⟨hnc, hnt, hI, hg, h0⟩, hz, hxc, hxt⟩ := id G
  refine lv_iconst (v := 0) hx hb dL_law_494 (by decide) ?_
  refine lv_istore (lv' := [(18, .int 0), (17, .ref qd), (16, .int (fd0 (iceN f g h) 1000 0)), (15, .int (nxt f nt)), (14, .ref qn), (11, .ref qh), (10, .ref qt), (9, .ref qc), (8, .int (nI nt)), (7, .int (nI nc)), (5, .int (nI time)), (4, .ref wh), (3, .ref mo), (2, .ref (S 0)), (1, .ref x), (0, .ref b)]) hx hb dL_law_495 hl (by decide) rfl (fun ls hl => ?_)
  have lp0 : ∀ (n j : Nat), j + n = nt → ∀ (H : Heap) (locs : List Loc), va_P D vwCl (([(mo, .inl (cI, 6, .inl mostA)), (wh, .inl (cI, 5, .inl (fun i => nI (wN i)))), (qc, .inl (cL, nc, .inr (.inr (.inr (.inr (fun i => some (r i))))))), (qt, .inl (cL, nt, .inr (.inr (.inr (.inr (fun i => some (r2 i))))))), (qh, .inl (cI, 10, .inl (cntF nt f g))), (qn, .inl (cI, 10, .inl th)), (qd, .inl (cI, nc, .inl dn))] : va_W) ++ (RT cI r2 f nt ++ (RC cI r f nc ++ ((YW cI cC cT x A (B 0) nc nt f g ++ CW cI cC cT B nc2 nt2 f2 g2) ++ (SM cI cL S C T nc nt f g))))) H → va_D A0 (([(mo, .inl (cI, 6, .inl mostA)), (wh, .inl (cI, 5, .inl (fun i => nI (wN i)))), (qc, .inl (cL, nc, .inr (.inr (.inr (.inr (fun i => some (r i))))))), (qt, .inl (cL, nt, .inr (.inr (.inr (.inr (fun i => some (r2 i))))))), (qh, .inl (cI, 10, .inl (cntF nt f g))), (qn, .inl (cI, 10, .inl th)), (qd, .inl (cI, nc, .inl dn))] : va_W) ++ (RT cI r2 f nt ++ (RC cI r f nc ++ ((YW cI cC cT x A (B 0) nc nt f g ++ CW cI cC cT B nc2 nt2 f2 g2) ++ (SM cI cL S C T nc nt f g))))) → va_S A0 s.heap H locs → ∀ ls, lv_has ls 30 [(18, .int (nI j)), (17, .ref qd), (16, .int (fd0 (iceN f g h) 1000 0)), (15, .int (nxt f nt)), (14, .ref qn), (11, .ref qh), (10, .ref qt), (9, .ref qc), (8, .int (nI nt)), (7, .int (nI nc)), (5, .int (nI time)), (4, .ref wh), (3, .ref mo), (2, .ref (S 0)), (1, .ref x), (0, .ref b)] → W p l e room_1 s m args below meth c H locs cells slots Q (F0 m 497 ls []) := by
    intro n
    induction n with
    | zero =>
      intro j hj   H locs hP hD hS ls hl
      have hje : nt = j := by omega
      subst hje
      refine lv_iload hx hb dL_law_497 (lv_at hl 0 rfl) ?_
      refine lv_iload hx hb dL_law_499 (lv_at hl 8 rfl) ?_
      refine lv_icmp_ge (tgt := 568) hx hb dL_law_501 (by decide) (fun c_501 => ?_) (fun c_501 => ?_)
      rotate_left
      · exact absurd (Int32.le_refl _) c_501
      exact W.widen (by omega) (by omega) (law_5 EL ht hh G hcE hsE hcl hsl K hth hdn hP hD hS (lv_sub hl [1, 2, 4, 5, 6, 7, 8, 9, 10, 11, 12, 13, 14, 15] rfl))
    | succ n ih =>
      intro j hj   H locs hP hD hS ls hl
      refine lv_iload hx hb dL_law_497 (lv_at hl 0 rfl) ?_
      refine lv_iload hx hb dL_law_499 (lv_at hl 8 rfl) ?_
      refine lv_icmp_ge (tgt := 568) hx hb dL_law_501 (by decide) (fun c_501 => ?_) (fun c_501 => ?_)
      · exact absurd c_501 (nI_ge (by omega) (by omega))
      refine lv_aload hx hb dL_law_504 (lv_at hl 6 rfl) ?_
      refine lv_iload hx hb dL_law_506 (lv_at hl 0 rfl) ?_
      refine w_qldA hx hb hK hP (List.mem_append_left _ (List.mem_of_getElem? (i := 3) rfl)) rfl j rfl (by omega) (by omega) (v := r2 j) rfl dL_law_508 ?_
      refine lv_iconst (v := 0) hx hb dL_law_509 (by decide) ?_
      refine w_ildM hx hb hK hP (List.mem_append_right _ (List.mem_append_left _ (List.mem_of_getElem? (rt_get (by omega))))) rfl 0 rfl (by decide) (by decide) (v := f (19 + 3 * j)) rfl dL_law_510 ?_
      refine lv_if_le (tgt := 562) hx hb dL_law_511 (by decide) (fun c_511 => ?_) (fun c_511 => ?_)
      ·
        refine lv_iinc (v := nI (j + 1)) (lv' := [(18, .int (nI (j + 1))), (17, .ref qd), (16, .int (fd0 (iceN f g h) 1000 0)), (15, .int (nxt f nt)), (14, .ref qn), (11, .ref qh), (10, .ref qt), (9, .ref qc), (8, .int (nI nt)), (7, .int (nI nc)), (5, .int (nI time)), (4, .ref wh), (3, .ref mo), (2, .ref (S 0)), (1, .ref x), (0, .ref b)]) hx hb dL_law_562 hl (k := 0) rfl (nI_succ _).symm (by decide) rfl (fun ls hl => ?_)
        refine lv_goto (tgt := 497) hx hb dL_law_565 (by decide) ?_
        exact W.widen (by omega) (by omega) (ih (j + 1) (by omega) _ _ hP hD hS _ (lv_sub hl [0, 1, 2, 3, 4, 5, 6, 7, 8, 9, 10, 11, 12, 13, 14, 15] rfl))
      ·
        refine lv_iload hx hb dL_law_514 (lv_at hl 3 rfl) ?_
        refine lv_if_lt (tgt := 560) hx hb dL_law_516 (by decide) (fun c_516 => ?_) (fun c_516 => ?_)
        · exact absurd c_516 (nx_a hnt (by omega) c_511)
        obtain ⟨k, hk, ek, hk0, hks⟩ := nx_k hnt c_516
        obtain ⟨hka, hkb⟩ := hks j (by omega) c_511
        refine lv_aload hx hb dL_law_519 (lv_at hl 6 rfl) ?_
        refine lv_iload hx hb dL_law_521 (lv_at hl 0 rfl) ?_
        refine w_qldA hx hb hK hP (List.mem_append_left _ (List.mem_of_getElem? (i := 3) rfl)) rfl j rfl (by omega) (by omega) (v := r2 j) rfl dL_law_523 ?_
        refine lv_iconst (v := 1) hx hb dL_law_524 (by decide) ?_
        refine w_ildM hx hb hK hP (List.mem_append_right _ (List.mem_append_left _ (List.mem_of_getElem? (rt_get (by omega))))) rfl 1 rfl (by decide) (by decide) (v := f (20 + 3 * j)) rfl dL_law_525 ?_
        refine lv_aload hx hb dL_law_526 (lv_at hl 6 rfl) ?_
        refine lv_iload hx hb dL_law_528 (lv_at hl 3 rfl) ?_
        refine w_qldA hx hb hK hP (List.mem_append_left _ (List.mem_of_getElem? (i := 3) rfl)) rfl k ek hk (by omega) (v := r2 k) rfl dL_law_530 ?_
        refine lv_iconst (v := 1) hx hb dL_law_531 (by decide) ?_
        refine w_ildM hx hb hK hP (List.mem_append_right _ (List.mem_append_left _ (List.mem_of_getElem? (rt_get hk)))) rfl 1 rfl (by decide) (by decide) (v := f (20 + 3 * k)) rfl dL_law_532 ?_
        refine lv_icmp_lt (tgt := 560) hx hb dL_law_533 (by decide) (fun c_533 => ?_) (fun c_533 => ?_)
        · exact absurd c_533 (Int32.not_lt.mpr hka)
        refine lv_aload hx hb dL_law_536 (lv_at hl 6 rfl) ?_
        refine lv_iload hx hb dL_law_538 (lv_at hl 0 rfl) ?_
        refine w_qldA hx hb hK hP (List.mem_append_left _ (List.mem_of_getElem? (i := 3) rfl)) rfl j rfl (by omega) (by omega) (v := r2 j) rfl dL_law_540 ?_
        refine lv_iconst (v := 1) hx hb dL_law_541 (by decide) ?_
        refine w_ildM hx hb hK hP (List.mem_append_right _ (List.mem_append_left _ (List.mem_of_getElem? (rt_get (by omega))))) rfl 1 rfl (by decide) (by decide) (v := f (20 + 3 * j)) rfl dL_law_542 ?_
        refine lv_aload hx hb dL_law_543 (lv_at hl 6 rfl) ?_
        refine lv_iload hx hb dL_law_545 (lv_at hl 3 rfl) ?_
        refine w_qldA hx hb hK hP (List.mem_append_left _ (List.mem_of_getElem? (i := 3) rfl)) rfl k ek hk (by omega) (v := r2 k) rfl dL_law_547 ?_
        refine lv_iconst (v := 1) hx hb dL_law_548 (by decide) ?_
        refine w_ildM hx hb hK hP (List.mem_append_right _ (List.mem_append_left _ (List.mem_of_getElem? (rt_get hk)))) rfl 1 rfl (by decide) (by decide) (v := f (20 + 3 * k)) rfl dL_law_549 ?_
        refine lv_icmp_ne (tgt := 562) hx hb dL_law_550 (by decide) (fun c_550 => ?_) (fun c_550 => ?_)
        ·
          refine lv_iinc (v := nI (j + 1)) (lv' := [(18, .int (nI (j + 1))), (17, .ref qd), (16, .int (fd0 (iceN f g h) 1000 0)), (15, .int (nxt f nt)), (14, .ref qn), (11, .ref qh), (10, .ref qt), (9, .ref qc), (8, .int (nI nt)), (7, .int (nI nc)), (5, .int (nI time)), (4, .ref wh), (3, .ref mo), (2, .ref (S 0)), (1, .ref x), (0, .ref b)]) hx hb dL_law_562 hl (k := 0) rfl (nI_succ _).symm (by decide) rfl (fun ls hl => ?_)
          refine lv_goto (tgt := 497) hx hb dL_law_565 (by decide) ?_
          exact W.widen (by omega) (by omega) (ih (j + 1) (by omega) _ _ hP hD hS _ (lv_sub hl [0, 1, 2, 3, 4, 5, 6, 7, 8, 9, 10, 11, 12, 13, 14, 15] rfl))
        ·
          refine lv_iload hx hb dL_law_553 (lv_at hl 0 rfl) ?_
          refine lv_iload hx hb dL_law_555 (lv_at hl 3 rfl) ?_
          refine lv_icmp_ge (tgt := 562) hx hb dL_law_557 (by decide) (fun c_557 => ?_) (fun c_557 => ?_)
          rotate_left
          · exact absurd (hkb (by rw [ek, nI_leI (by omega) (by omega)] at c_557; omega)) (by rw [c_550]; exact Int32.lt_irrefl)
          refine lv_iinc (v := nI (j + 1)) (lv' := [(18, .int (nI (j + 1))), (17, .ref qd), (16, .int (fd0 (iceN f g h) 1000 0)), (15, .int (nxt f nt)), (14, .ref qn), (11, .ref qh), (10, .ref qt), (9, .ref qc), (8, .int (nI nt)), (7, .int (nI nc)), (5, .int (nI time)), (4, .ref wh), (3, .ref mo), (2, .ref (S 0)), (1, .ref x), (0, .ref b)]) hx hb dL_law_562 hl (k := 0) rfl (nI_succ _).symm (by decide) rfl (fun ls hl => ?_)
          refine lv_goto (tgt := 497) hx hb dL_law_565 (by decide) ?_
          exact W.widen (by omega) (by omega) (ih (j + 1) (by omega) _ _ hP hD hS _ (lv_sub hl [0, 1, 2, 3, 4, 5, 6, 7, 8, 9, 10, 11, 12, 13, 14, 15] rfl))
  exact W.widen (by omega) (by omega) (lp0 nt 0 (by omega) _ _ hP hD hS _ (lv_sub hl [0, 1, 2, 3, 4, 5, 6, 7, 8, 9, 10, 11, 12, 13, 14, 15] rfl))
