/-! the law: its worlds, its snapshots, what it compares -/
theorem lg_self (x : Int64) : lg_cmp x x = 0 := by
  unfold lg_cmp
  simp
theorem pm_act (a y c m : va_W) : (a ++ ((y ++ c) ++ m)).Perm ((a ++ c) ++ (y ++ m)) := by
  have e1 : (a ++ ((y ++ c) ++ m)) = a ++ ((y ++ c) ++ m) := rfl
  have e2 : ((a ++ c) ++ (y ++ m)) = a ++ ((c ++ y) ++ m) := by simp only [List.append_assoc]
  rw [e2]
  exact (List.perm_append_comm.append_right m).append_left a
theorem pm_mna (a X R : va_W) (q : Nat × va_E) : ((a ++ X) ++ (q :: R)).Perm ((a ++ [q]) ++ (R ++ X)) := by
  have e1 : ((a ++ X) ++ (q :: R)) = a ++ (X ++ ([q] ++ R)) := by simp only [List.append_assoc]; rfl
  have e2 : ((a ++ [q]) ++ (R ++ X)) = a ++ (([q] ++ R) ++ X) := by simp only [List.append_assoc]
  rw [e1, e2]
  exact List.perm_append_comm.append_left a
theorem pm_fin (a d t c X : va_W) : ((a ++ d) ++ (t ++ (c ++ X))).Perm ((a ++ X) ++ (d ++ (t ++ c))) := by
  have e1 : ((a ++ d) ++ (t ++ (c ++ X))) = a ++ ((d ++ (t ++ c)) ++ X) := by simp only [List.append_assoc]
  have e2 : ((a ++ X) ++ (d ++ (t ++ c))) = a ++ (X ++ (d ++ (t ++ c))) := by simp only [List.append_assoc]
  rw [e1, e2]
  exact List.perm_append_comm.append_left a
theorem pm_bld (y c m : va_W) : (c ++ (y ++ m)).Perm ((y ++ c) ++ m) := by
  have e : (c ++ (y ++ m)) = (c ++ y) ++ m := by simp only [List.append_assoc]
  rw [e]
  exact List.perm_append_comm.append_right m
theorem pm_sam (a y c m : va_W) : (a ++ ((y ++ c) ++ m)).Perm ((y ++ m) ++ (a ++ c)) := (pm_act a y c m).trans List.perm_append_comm
theorem pm_one (a b : va_W) : (a ++ b).Perm (b ++ a) := List.perm_append_comm
theorem rc_z {cI : ClassId} {r : Nat → Nat} {n : Nat} : ((List.range n).map (fun i => (r i, (.inl (cI, 3, .inl (fun _ => 0)) : va_E))) : va_W) = RC cI r (fun _ => 0) n := by
  unfold RC
  show _ = (List.range n).map (fun i => (r i, (.inl (cI, 3, .inl (r3 0 0 0)) : va_E)))
  rw [r3_z]
theorem rt_z {cI : ClassId} {r : Nat → Nat} {n : Nat} : ((List.range n).map (fun i => (r i, (.inl (cI, 3, .inl (fun _ => 0)) : va_E))) : va_W) = RT cI r (fun _ => 0) n := by
  unfold RT
  show _ = (List.range n).map (fun i => (r i, (.inl (cI, 3, .inl (r3 0 0 0)) : va_E)))
  rw [r3_z]
section QQ
variable {cI : ClassId} {C : Nat → Nat} {f : Nat → Int32} {n i : Nat} {x y z : Int32}
theorem Q_c0 (hi : i < n) (v : Int32) : Jf (RC cI C f n) [(C i, .inl (cI, 3, .inl (r3 (f (7 + 3 * i)) (f (8 + 3 * i)) (f (9 + 3 * i)))))] [(C i, .inl (cI, 3, .inl (upd (r3 (f (7 + 3 * i)) (f (8 + 3 * i)) (f (9 + 3 * i))) 0 v)))] (RC cI C (set3 f (7 + 3 * i) v (f (8 + 3 * i)) (f (9 + 3 * i))) n) := by
  rw [r3_u0]
  exact Jf_set i (rc_get hi) (rc_set hi)
theorem Q_t0 (hi : i < n) (v : Int32) : Jf (RT cI C f n) [(C i, .inl (cI, 3, .inl (r3 (f (19 + 3 * i)) (f (20 + 3 * i)) (f (21 + 3 * i)))))] [(C i, .inl (cI, 3, .inl (upd (r3 (f (19 + 3 * i)) (f (20 + 3 * i)) (f (21 + 3 * i))) 0 v)))] (RT cI C (set3 f (19 + 3 * i) v (f (20 + 3 * i)) (f (21 + 3 * i))) n) := by
  rw [r3_u0]
  exact Jf_set i (rt_get hi) (rt_set hi)
theorem rc_gs (hi : i < n) : (RC cI C (set3 f (7 + 3 * i) x y z) n)[i]? = some (C i, .inl (cI, 3, .inl (r3 x y z))) := by
  rw [rc_get hi, s7_0, s7_1, s7_2]
theorem rt_gs (hi : i < n) : (RT cI C (set3 f (19 + 3 * i) x y z) n)[i]? = some (C i, .inl (cI, 3, .inl (r3 x y z))) := by
  rw [rt_get hi, s19_0, s19_1, s19_2]
theorem Q_c1 (hi : i < n) (v : Int32) : Jf (RC cI C (set3 f (7 + 3 * i) x y z) n) [(C i, .inl (cI, 3, .inl (r3 x y z)))] [(C i, .inl (cI, 3, .inl (upd (r3 x y z) 1 v)))] (RC cI C (set3 f (7 + 3 * i) x v z) n) := by
  rw [r3_u1]
  exact Jf_set i (rc_gs hi) (by rw [rc_set hi, s_s3])
theorem Q_c2 (hi : i < n) (v : Int32) : Jf (RC cI C (set3 f (7 + 3 * i) x y z) n) [(C i, .inl (cI, 3, .inl (r3 x y z)))] [(C i, .inl (cI, 3, .inl (upd (r3 x y z) 2 v)))] (RC cI C (set3 f (7 + 3 * i) x y v) n) := by
  rw [r3_u2]
  exact Jf_set i (rc_gs hi) (by rw [rc_set hi, s_s3])
theorem Q_t1 (hi : i < n) (v : Int32) : Jf (RT cI C (set3 f (19 + 3 * i) x y z) n) [(C i, .inl (cI, 3, .inl (r3 x y z)))] [(C i, .inl (cI, 3, .inl (upd (r3 x y z) 1 v)))] (RT cI C (set3 f (19 + 3 * i) x v z) n) := by
  rw [r3_u1]
  exact Jf_set i (rt_gs hi) (by rw [rt_set hi, s_s3])
theorem Q_t2 (hi : i < n) (v : Int32) : Jf (RT cI C (set3 f (19 + 3 * i) x y z) n) [(C i, .inl (cI, 3, .inl (r3 x y z)))] [(C i, .inl (cI, 3, .inl (upd (r3 x y z) 2 v)))] (RT cI C (set3 f (19 + 3 * i) x y v) n) := by
  rw [r3_u2]
  exact Jf_set i (rt_gs hi) (by rw [rt_set hi, s_s3])
end QQ
theorem snap7 {F f : Nat → Int32} {j : Nat} (h : ∀ i, i < j → F (7 + 3 * i) = f (7 + 3 * i) ∧ F (8 + 3 * i) = f (8 + 3 * i) ∧ F (9 + 3 * i) = f (9 + 3 * i)) : ∀ i, i < j + 1 → set3 F (7 + 3 * j) (f (7 + 3 * j)) (f (8 + 3 * j)) (f (9 + 3 * j)) (7 + 3 * i) = f (7 + 3 * i) ∧ set3 F (7 + 3 * j) (f (7 + 3 * j)) (f (8 + 3 * j)) (f (9 + 3 * j)) (8 + 3 * i) = f (8 + 3 * i) ∧ set3 F (7 + 3 * j) (f (7 + 3 * j)) (f (8 + 3 * j)) (f (9 + 3 * j)) (9 + 3 * i) = f (9 + 3 * i) := by
  intro i hi
  by_cases e : i = j
  · subst e
    exact ⟨s7_0, s7_1, s7_2⟩
  · rw [s3_o (by omega), s3_o (by omega), s3_o (by omega)]
    exact h i (by omega)
theorem snap19 {F f : Nat → Int32} {j : Nat} (h : ∀ i, i < j → F (19 + 3 * i) = f (19 + 3 * i) ∧ F (20 + 3 * i) = f (20 + 3 * i) ∧ F (21 + 3 * i) = f (21 + 3 * i)) : ∀ i, i < j + 1 → set3 F (19 + 3 * j) (f (19 + 3 * j)) (f (20 + 3 * j)) (f (21 + 3 * j)) (19 + 3 * i) = f (19 + 3 * i) ∧ set3 F (19 + 3 * j) (f (19 + 3 * j)) (f (20 + 3 * j)) (f (21 + 3 * j)) (20 + 3 * i) = f (20 + 3 * i) ∧ set3 F (19 + 3 * j) (f (19 + 3 * j)) (f (20 + 3 * j)) (f (21 + 3 * j)) (21 + 3 * i) = f (21 + 3 * i) := by
  intro i hi
  by_cases e : i = j
  · subst e
    exact ⟨s19_0, s19_1, s19_2⟩
  · rw [s3_o (by omega), s3_o (by omega), s3_o (by omega)]
    exact h i (by omega)
theorem snap1 {F f : Nat → Int32} {j : Nat} (h : ∀ i, i < j → F i = f i) : ∀ i, i < j + 1 → upd F j (f j) i = f i := by
  intro i hi
  by_cases e : i = j
  · subst e
    exact up_s
  · rw [up_o e]
    exact h i (by omega)
def mostA : Nat → Int32 := fun k => if k < 2 then 0 else if k = 2 then 900 else 300
def wN (k : Nat) : Nat := if k = 0 then 2 else if k = 1 then 6 else if k = 2 then 7 else if k = 3 then 8 else 9
theorem wN_lt (k : Nat) : wN k < 10 := by
  unfold wN
  repeat' split
  all_goals omega
theorem snapW {F f : Nat → Int32} {j : Nat} (h : ∀ i, i < j → F (wN i) = f (wN i)) : ∀ i, i < j + 1 → upd F (wN j) (f (wN j)) (wN i) = f (wN i) := by
  intro i hi
  by_cases e : wN i = wN j
  · rw [e]
    exact up_s
  · rw [up_o e]
    by_cases e2 : i = j
    · rw [e2] at e
      exact absurd rfl e
    · exact h i (by omega)
theorem k_done {n i : Nat} (hn : n ≤ 4) (hi : i < n) : kDone n (nI i) = 0 := by
  rw [kDone, if_pos ⟨nI_pos' (by omega), nI_lt hi (by omega)⟩]
theorem k_fore (i : Nat) : kFore 1 (nI (wN i)) = 0 := by
  unfold wN
  repeat' split
  all_goals decide
section YC
variable {cI cC cT : ClassId} {x b0 : Nat} {A B : Nat → Nat} {nc nt nc' nt' nc2 nt2 nc2' nt2' : Nat} {f g f' g' f2 g2 f2' g2' : Nat → Int32}
theorem ywcw_fst : (YW cI cC cT x A b0 nc' nt' f' g' ++ CW cI cC cT B nc2' nt2' f2' g2').map (fun q => q.1) = (YW cI cC cT x A b0 nc nt f g ++ CW cI cC cT B nc2 nt2 f2 g2).map (fun q => q.1) := rfl
end YC
/-! small -/
theorem bd_n0 {x : Int32} {n : Int} (h : Bd0 x n) : ¬ x < 0 := by
  rw [i_lt, show (0 : Int32).toInt = 0 by decide]
  have := h.1
  omega
theorem bd_20 {x : Int32} (h : Bd0 x 20) : x ≤ 20 := by
  rw [i_le, show (20 : Int32).toInt = 20 by decide]
  exact h.2
theorem bd_30 {x : Int32} (h : Bd0 x 30) : ¬ 30 < x := by
  rw [i_lt, show (30 : Int32).toInt = 30 by decide]
  have := h.2
  omega
theorem bd_60 {x : Int32} (h : Bd0 x 60) : ¬ 60 < x := by
  rw [i_lt, show (60 : Int32).toInt = 60 by decide]
  have := h.2
  omega
theorem bd_100 {x : Int32} (h : Bd0 x 100) : ¬ 100 < x := by
  rw [i_lt, show (100 : Int32).toInt = 100 by decide]
  have := h.2
  omega
theorem bd_300 {x : Int32} (h : Bd0 x 300) : x ≤ 300 := by
  rw [i_le, show (300 : Int32).toInt = 300 by decide]
  exact h.2
theorem bd_900 {x : Int32} (h : Bd0 x 900) : x ≤ 900 := by
  rw [i_le, show (900 : Int32).toInt = 900 by decide]
  exact h.2
section LF
variable {nc nt h : Nat} {f g f1 : Nat → Int32}
theorem hadb (hI : Inv f) (k : Nat) (h2 : 2 ≤ k) (h6 : k < 6) : ¬ cntF nt f g k < 0 ∧ cntF nt f g k ≤ mostA k := by
  obtain ⟨⟨a1, a2, a3, a4⟩, -⟩ := hI
  rcases (show k = 2 ∨ k = 3 ∨ k = 4 ∨ k = 5 by omega) with rfl | rfl | rfl | rfl
  · exact ⟨bd_n0 a1, bd_900 a1⟩
  · exact ⟨bd_n0 a2, bd_300 a2⟩
  · exact ⟨bd_n0 a3, bd_300 a3⟩
  · exact ⟨bd_n0 a4, bd_300 a4⟩
/-- next, and the tubs -/
theorem nx_a (hnt : nt ≤ 6) {t : Nat} (ht : t < nt) (hp : ¬ f (19 + 3 * t) ≤ 0) : ¬ nxt f nt < 0 := by
  rcases sel_nxt f nt (by omega) with ⟨-, q⟩ | ⟨k, -, hk, ek, -⟩
  · exact absurd (q t (Nat.zero_le _) ht) hp
  · rw [ek, show (0 : Int32) = nI 0 from rfl, nI_ltI (by omega) (by decide)]
    omega
theorem nx_k (hnt : nt ≤ 6) (h : ¬ nxt f nt < 0) : ∃ k, k < nt ∧ nxt f nt = nI k ∧ 0 < f (19 + 3 * k) ∧ ∀ t, t < nt → ¬ f (19 + 3 * t) ≤ 0 → f (20 + 3 * k) ≤ f (20 + 3 * t) ∧ (t < k → f (20 + 3 * k) < f (20 + 3 * t)) := by
  rcases sel_nxt f nt (by omega) with ⟨q, -⟩ | ⟨k, -, hk, ek, h0, hs⟩
  · rw [q] at h
    exact absurd (by decide) h
  · exact ⟨k, hk, ek, h0, fun t ht hp => hs t (Nat.zero_le _) ht (Int32.not_le.mp hp)⟩
theorem l6a {s p : Nat} (h1 : 2 * s ≤ p) (hp : p < 1000) : ¬ nI p < 2 * nI s := by
  have e : 2 * nI s = nI (2 * s) := pk_mul 2 s
  rw [e, nI_ltI (by omega) (by omega)]
  omega
theorem l6b {s p : Nat} (h1 : p ≤ 3 * s) (hs : s ≤ 10) : ¬ 3 * nI s < nI p := by
  have e : 3 * nI s = nI (3 * s) := pk_mul 3 s
  rw [e, nI_ltI (by omega) (by omega)]
  omega
theorem l6c {a : Nat} {x y : Int32} (h : a = 0 ∨ x ≤ 0 ∨ y ≤ 0) (h1 : ¬ nI a ≤ 0) (h2 : ¬ x ≤ 0) : ¬ 0 < y := by
  rcases h with q | q | q
  · exact absurd (by rw [q]; decide) h1
  · exact absurd q h2
  · exact Int32.not_lt.mpr q
theorem in_y {ck : Int32} (h1 : ¬ ck < 10) (h2 : ¬ 18 < ck) : 10 ≤ ck ∧ ck ≤ 18 := ⟨Int32.not_lt.mp h1, Int32.not_lt.mp h2⟩
theorem in_n1 {ck : Int32} (h1 : ck < 10) : ¬ (10 ≤ ck ∧ ck ≤ 18) := fun q => absurd h1 (Int32.not_lt.mpr q.1)
theorem in_n2 {ck : Int32} (h1 : 18 < ck) : ¬ (10 ≤ ck ∧ ck ≤ 18) := fun q => absurd h1 (Int32.not_lt.mpr q.2)
theorem w_3 (e1 : f1 = hourF nc nt g f) : cntF nt f1 g 3 = cntF nt f g 3 := by
  subst e1
  exact hour_2 (nc := nc) (nt := nt) (j := 2) (f := f) (g := g) (by decide) (by decide) (by decide)
theorem w_4 (e1 : f1 = hourF nc nt g f) : cntF nt f1 g 4 = cntF nt f g 4 := by
  subst e1
  exact hour_2 (nc := nc) (nt := nt) (j := 3) (f := f) (g := g) (by decide) (by decide) (by decide)
theorem w_2n (e1 : f1 = hourF nc nt g f) (h : ¬ cntF nt f g 0 - cntF nt f g 0 / 4 * 4 = 0) : cntF nt f1 g 2 = cntF nt f g 2 := by
  subst e1
  show hourF nc nt g f 1 = f 1
  rw [hour_1]
  exact if_neg h
theorem w_2y (e1 : f1 = hourF nc nt g f) (h : cntF nt f g 0 - cntF nt f g 0 / 4 * 4 = 0) : cntF nt f1 g 2 = imx 0 (cntF nt f g 2 - cntF nt f g 1 / 5) := by
  subst e1
  show hourF nc nt g f 1 = imx 0 (f 1 - hotOf f g / 5)
  rw [hour_1]
  exact if_pos h
theorem w_6 : cntF nt f1 g 6 = cntF nt f g 6 + (f1 5 - f 5) := by
  show f1 5 = f 5 + (f1 5 - f 5)
  grind
theorem ch_a (e1 : f1 = hourF nc nt g f) (hnc : nc ≤ 4) {i : Nat} (hi : i < nc) : f1 (7 + 3 * i) = imx 0 (f (7 + 3 * i) - cntF nt f g 1 / 10 - 1) := by
  subst e1
  exact (hour_ch hnc hi).1
theorem ch_b (e1 : f1 = hourF nc nt g f) (hnc : nc ≤ 4) {i : Nat} (hi : i < nc) : f1 (8 + 3 * i) = f (8 + 3 * i) := by
  subst e1
  exact (hour_ch hnc hi).2.1
theorem ch_c (e1 : f1 = hourF nc nt g f) (hnc : nc ≤ 4) {i : Nat} (hi : i < nc) (hI : Inv f) (h : ¬ f (8 + 3 * i) = 0) : f1 (9 + 3 * i) = imn 100 (f (9 + 3 * i) + f (7 + 3 * i) / 3) := by
  subst e1
  rw [(hour_ch hnc hi).2.2, turnF, if_pos ?_]
  · rfl
  · exact Int32.not_le.mp (fun q => h (le0_0 (hI.2.1 i (by omega)).2.1 q))
theorem ch_d (e1 : f1 = hourF nc nt g f) (hnc : nc ≤ 4) {i : Nat} (hi : i < nc) (hx : ExC f) (h : f (8 + 3 * i) = 0) : f1 (9 + 3 * i) = 0 := by
  subst e1
  rw [(hour_ch hnc hi).2.2, h, turnF, if_neg (by decide)]
  exact hx i (by omega) h
theorem so_1 {b hot ice : Int32} {n : Nat} (hb : Bd0 b 100) (hh : Bd0 hot 40) (h1 : ¬ hot ≤ 20) (h2 : ¬ 100 ≤ ice) : softB b hot ice = imx 0 (imn 100 (b + ((hot - 20) / 4 + 1))) := by
  obtain ⟨x, hx, rfl⟩ := of_bd (n := 100) (by decide) hb
  obtain ⟨q, hq, rfl⟩ := of_bd (n := 40) (by decide) hh
  have e20 : (20 : Int32) = nI 20 := rfl
  rw [softB, if_pos ⟨Int32.not_le.mp h1, Int32.not_le.mp h2⟩]
  rw [e20, nI_leI (by omega) (by decide)] at h1
  have e1 : nI q - 20 = nI (q - 20) := by rw [e20, pk_sub (by omega)]
  have e2 : nI (q - 20) / 4 = nI ((q - 20) / 4) := pk_div (d := 4) (by omega) (by decide) (by decide)
  have e3 : nI x + (nI q - 20) / 4 + 1 = nI (x + (q - 20) / 4 + 1) := by rw [e1, e2, nI_add, nI_succ]
  have e4 : nI x + ((nI q - 20) / 4 + 1) = nI (x + (q - 20) / 4 + 1) := by rw [← e3, Int32.add_assoc]
  have e5 : (100 : Int32) = nI 100 := rfl
  rw [e3, e4, e5, mn_n (by omega) (by omega)]
  exact (imx_ge (by rw [show (0 : Int32) = nI 0 from rfl, nI_ltI (by omega) (by decide)]; omega)).symm
theorem so_2 {b hot ice : Int32} (hb : Bd0 b 100) (h : hot ≤ 20 ∨ 100 ≤ ice) : softB b hot ice = imx 0 (imn 100 (b + -1)) := by
  rw [softB, if_neg (fun q => h.elim (fun z => absurd q.1 (Int32.not_lt.mpr z)) (fun z => absurd q.2 (Int32.not_lt.mpr z)))]
  have e : b + -1 = b - 1 := by grind
  rw [e, imn_a (sf_x2 hb)]
theorem nI_n0 {n : Nat} (hn : n < 2 ^ 31) : ¬ nI n < 0 := by
  rw [show (0 : Int32) = nI 0 from rfl, nI_ltI hn (by decide)]
  omega
theorem nI_n2 {n : Nat} (hn : n ≤ 2) : ¬ 2 < nI n := by
  rw [show (2 : Int32) = nI 2 from rfl, nI_ltI (by decide) (by omega)]
  omega
end LF
