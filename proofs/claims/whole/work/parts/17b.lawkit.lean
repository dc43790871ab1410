/-! the law's calls: a wrapper's; the classes' facts at the entry; what the loop keeps -/
theorem lg_self (x : Int64) : lg_cmp x x = 0 := by
  unfold lg_cmp
  simp
section SW
variable {p : Program} {l : Launch} {e : Env} {R : Room} {s : State} {m : MethodId} {args : Array Value} {below : List Frame} {meth : Method} {c : Code} {H : Heap} {locs : List Loc} {cells slots : Nat} {Q : State → Prop}
variable {y : MethodName} {bytes cc : ByteArray} {maxL nL mc ms n index pc : Nat} {ret : Option FieldType} {wsY Ts : List Cond} {rm : Room} {own C : String} {b : Addr} {As rest st0 st1 av : List Value} {ls : Array Slot}
variable {D : va_G} {tys : List (ClassId × FieldType)} {ws wc w1 ws' : va_W} {o : Option Value} {A : Nat → Prop} {hh : List (Nat × Nat × Nat × Nat)}
theorem c0_SW (S : CallFix p m c cc nL s args Ts own) (hM : M0 l y wsY rm D tys As wc o w1 mc ms) (cw : vx_CSW R s args own index y bytes maxL ret hh wsY rm mc ms n) (hK : va_K D vwCl tys s) (hP : va_P D vwCl ws H) (hD : va_D A ws) (hS : va_S A s.heap H locs) (hA : ∀ q : Nat, s.heap.size ≤ q → A q) (hST : ST A s) (J : Jn ws wc w1 ws')
    (hn : As.length = n) (hsize : ls.size = nL) (hstack : st0 = As.reverse ++ rest) (hW : (rest.map fun v => v.category).sum ≤ 8) (hdg : decode cc pc = .ok (.invokestatic index, 3)) (hf : cells + mc ≤ R.cells ∧ slots + ms ≤ R.slots) (hst : o.toList ++ rest = st1)
    (kk : ∀ (H1 : Heap) (locs1 : List Loc), va_P D vwCl ws' H1 → va_D A ws' → va_S A s.heap H1 locs1 → W p l e R s m args below meth c H1 locs1 (cells + mc) (slots + ms) Q (F0 m (pc + 3) ls st1)) : W p l e R s m args below meth c H locs cells slots Q (F0 m pc ls st0) :=
  c0_go (vx_runSW S (hM H.size) cw ⟨pd_blind, pd_at hK hP hD hS hA hST J⟩ rfl hn hsize hstack (lv_room hW) hdg hf) hP hD hS hA J hst kk
end SW
theorem in_u : (∀ w ∈ u_ws RX0 TX0 9, w ∈ lw_tbl) ∧ (∀ w ∈ u_ws RX1 TX1 3, w ∈ lw_tbl) ∧ (∀ w ∈ u_ws RX2 TX2 3, w ∈ lw_tbl) ∧ (∀ w ∈ u_ws RX3 TX3 2, w ∈ lw_tbl) ∧ (∀ w ∈ u_ws RX4 TX4 6, w ∈ lw_tbl) := by decide +kernel
theorem in_i : Cond.instantiable RX0 9 ∈ lw_tbl ∧ Cond.instantiable RX1 3 ∈ lw_tbl ∧ Cond.instantiable RX2 3 ∈ lw_tbl ∧ Cond.instantiable RX3 2 ∈ lw_tbl ∧ Cond.instantiable RX4 6 ∈ lw_tbl := by decide +kernel
theorem k_start {s : State} {args : Array Value} (hts : ∀ w ∈ lw_tbl, w.before args s = true) : ∃ (D : va_G) (cI cC cT cL : ClassId), va_K D vwCl (TY cI cC cT cL) s := by
  obtain ⟨u0, u1, u2, u3, u4⟩ := in_u
  obtain ⟨i0, i1, i2, i3, i4⟩ := in_i
  obtain ⟨-, -, -, -, -, -, -, z8, z9, z10, z11⟩ := in_z1
  obtain ⟨c0, s0, k0⟩ := u_known (C := RX0) (T := TX0) (N := 9) hts u0 (hts _ i0)
  obtain ⟨c1, s1, k1⟩ := u_known (C := RX1) (T := TX1) (N := 3) hts u1 (hts _ i1)
  obtain ⟨c2, s2, k2⟩ := u_known (C := RX2) (T := TX2) (N := 3) hts u2 (hts _ i2)
  obtain ⟨c3, s3, k3⟩ := u_known (C := RX3) (T := TX3) (N := 2) hts u3 (hts _ i3)
  obtain ⟨c4, s4, k4⟩ := u_known (C := RX4) (T := TX4) (N := 6) hts u4 (hts _ i4)
  obtain ⟨cI, hI⟩ := k_prim (hts _ z10)
  obtain ⟨cL, hL⟩ := k_long (hts _ z11)
  obtain ⟨cC, hC⟩ := k_obj (hts _ z8)
  obtain ⟨cT, hT⟩ := k_obj (hts _ z9)
  refine ⟨(fun k => if k = 0 then c0 else if k = 1 then c1 else if k = 2 then c2 else if k = 3 then c3 else c4, fun k => if k = 0 then s0 else if k = 1 then s1 else if k = 2 then s2 else if k = 3 then s3 else s4), cI, cC, cT, cL, ?_, ?_⟩
  · intro k q hq
    match k, hq with
    | 0, hq => cases hq; exact k0
    | 1, hq => cases hq; exact k1
    | 2, hq => cases hq; exact k2
    | 3, hq => cases hq; exact k3
    | 4, hq => cases hq; exact k4
    | k + 5, hq => simp [vwCl] at hq
  · intro k q hq
    match k, hq with
    | 0, hq => cases hq; exact hI
    | 1, hq => cases hq; exact hC
    | 2, hq => cases hq; exact hT
    | 3, hq => cases hq; exact hL
    | k + 4, hq => simp [TY] at hq
def GS (nc nt : Nat) (f g : Nat → Int32) (h : Nat) : Prop := nc ≤ 4 ∧ nt ≤ 6 ∧ Inv f ∧ Gd g ∧ f 0 = nI h
theorem gs_f {nc nt K h : Nat} {f g F : Nat → Int32} (G : GS nc nt f g h) (hF : K = 0 → Inv F ∧ F 0 = nI h) : GS nc nt (sel K F f) g h := by
  obtain ⟨h1, h2, h3, h4, h5⟩ := G
  unfold sel
  split
  · exact ⟨h1, h2, (hF (by assumption)).1, h4, (hF (by assumption)).2⟩
  · exact ⟨h1, h2, h3, h4, h5⟩
theorem cIn_bd {x : Int32} (n : Nat) (hn : n < 2 ^ 31) (h : cIn x 0 (nI n)) : Bd0 x n := by
  obtain ⟨j, hj, e⟩ := cIn_n n hn h.1 h.2
  rw [e]
  exact bd_n hj hn
theorem K_0 {K : Nat} (hK : K < 4) (h : nI K = 0) : K = 0 := by
  have e : (0 : Int32) = nI 0 := rfl
  rw [e, nI_eq (by omega) (by decide)] at h
  exact h
theorem l_bring (u v : Int32) : kBring u v < 4 := by
  unfold kBring
  repeat' split
  all_goals omega
theorem l_heat (u v : Int32) : kHeat u v < 4 := by
  unfold kHeat
  repeat' split
  all_goals omega
theorem l_churn (n : Nat) : kChurn n < 4 := by
  unfold kChurn
  repeat' split
  all_goals omega
theorem l_tub (n : Nat) : kTub n < 4 := by
  unfold kTub
  repeat' split
  all_goals omega
theorem l_pack (n : Nat) (f : Nat → Int32) (u v z : Int32) : kPack n f u v z < 4 := by
  unfold kPack
  repeat' split
  all_goals omega
theorem l_pour (n : Nat) (f : Nat → Int32) (u v : Int32) : kPour n f u v < 4 := by
  unfold kPour
  repeat' split
  all_goals omega
theorem l_scoop (n k : Nat) (f : Nat → Int32) (u v : Int32) : kScoop n k f u v < 4 := by
  unfold kScoop
  repeat' split
  all_goals omega
theorem l_told (n : Nat) (u v : Int32) : kTold n u v < 4 := by
  unfold kTold
  repeat' split
  all_goals omega
theorem l_count (u : Int32) : kCount u < 4 := by
  unfold kCount
  repeat' split
  all_goals omega
theorem l_pass (u : Int32) : kPass u < 4 := by
  unfold kPass
  repeat' split
  all_goals omega
theorem l_done (n : Nat) (u : Int32) : kDone n u < 4 := by
  unfold kDone
  repeat' split
  all_goals omega
theorem l_fore (u v : Int32) : kFore u v < 4 := by
  unfold kFore
  repeat' split
  all_goals omega
theorem l_salt (n : Nat) (u v : Int32) : kSalt n u v < 4 := by
  unfold kSalt
  repeat' split
  all_goals omega
theorem bd_min {b : Int32} (n : Nat) (hn : n < 2 ^ 30) {a m : Int32} (ha : Bd0 a n) (hm : cIn m 1 300) (hb : b = imn (nI n) (a + m)) : Bd0 b n := by
  obtain ⟨x, hx, rfl⟩ := of_bd (by omega) ha
  obtain ⟨y, hy, rfl⟩ := cIn_n 300 (by decide) (Int32.le_trans (by decide) hm.1) hm.2
  rw [hb, nI_add, mn_n (by omega) (by omega)]
  exact bd_n (by omega) (by omega)
theorem g_bring {nc nt h : Nat} {f g : Nat → Int32} (u v : Int32) (G : GS nc nt f g h) : GS nc nt (sel (kBring u v) (bringF f u.toNatClampNeg v) f) g h := by
  refine gs_f G (fun hk => ?_)
  obtain ⟨-, -, hI, -, h0⟩ := G
  unfold kBring at hk
  split at hk
  · next hu =>
    split at hk
    · next hv =>
      obtain ⟨w, hw, rfl⟩ := cIn_n 3 (by decide) hu.1 hu.2
      rw [nI_clamp (by omega)]
      refine ⟨?_, (up_o (by omega)).trans h0⟩
      unfold bringF
      rcases (show w = 0 ∨ w = 1 ∨ w = 2 ∨ w = 3 by omega) with rfl | rfl | rfl | rfl
      · exact hI.up (Or.inr (Or.inr (Or.inr (Or.inl ⟨rfl, bd_min 900 (by decide) hI.1.1 hv rfl⟩))))
      · exact hI.up (Or.inr (Or.inr (Or.inr (Or.inr ⟨Or.inl rfl, bd_min 300 (by decide) hI.1.2.1 hv rfl⟩))))
      · exact hI.up (Or.inr (Or.inr (Or.inr (Or.inr ⟨Or.inr (Or.inl rfl), bd_min 300 (by decide) hI.1.2.2.1 hv rfl⟩))))
      · exact hI.up (Or.inr (Or.inr (Or.inr (Or.inr ⟨Or.inr (Or.inr rfl), bd_min 300 (by decide) hI.1.2.2.2 hv rfl⟩))))
    · exact absurd hk (by decide)
  · exact absurd hk (by decide)
theorem g_heat {nc nt h : Nat} {f g : Nat → Int32} (u v : Int32) (G : GS nc nt f g h) : GS nc nt f (sel (kHeat u v) (upd g u.toNatClampNeg v) g) h := by
  obtain ⟨h1, h2, hI, hg, h0⟩ := G
  refine ⟨h1, h2, hI, ?_, h0⟩
  unfold sel
  split
  · next hk =>
    unfold kHeat at hk
    split at hk
    · split at hk
      · next hv =>
        intro k hk7
        by_cases e : k = u.toNatClampNeg
        · rw [e, up_s]
          exact cIn_bd 40 (by decide) hv
        · rw [up_o e]
          exact hg k hk7
      · exact absurd hk (by decide)
    · exact absurd hk (by decide)
  · exact hg
theorem g_churn {nc nt h : Nat} {f g : Nat → Int32} (G : GS nc nt f g h) : GS (sel (kChurn nc) (nc + 1) nc) nt f g h := by
  obtain ⟨h1, h2, hI, hg, h0⟩ := G
  refine ⟨?_, h2, hI, hg, h0⟩
  unfold sel
  split
  · next hk =>
    unfold kChurn at hk
    split at hk
    · next q =>
      have e : (4 : Int32) = nI 4 := rfl
      rw [e, nI_ltI (by omega) (by decide)] at q
      omega
    · exact absurd hk (by decide)
  · exact h1
theorem g_tub {nc nt h : Nat} {f g : Nat → Int32} (G : GS nc nt f g h) : GS nc (sel (kTub nt) (nt + 1) nt) f g h := by
  obtain ⟨h1, h2, hI, hg, h0⟩ := G
  refine ⟨h1, ?_, hI, hg, h0⟩
  unfold sel
  split
  · next hk =>
    unfold kTub at hk
    split at hk
    · next q =>
      have e : (6 : Int32) = nI 6 := rfl
      rw [e, nI_ltI (by omega) (by decide)] at q
      omega
    · exact absurd hk (by decide)
  · exact h2
theorem bd_sub {a v : Int32} (n k : Nat) (hn : n < 2 ^ 30) (hk : k < 2 ^ 30) (ha : Bd0 a n) (hv : cIn v 0 (nI k)) (h : ¬ a < v) : Bd0 (a - v) n := by
  obtain ⟨x, hx, rfl⟩ := of_bd (by omega) ha
  obtain ⟨y, hy, rfl⟩ := cIn_n k (by omega) hv.1 hv.2
  rw [nI_ltI (by omega) (by omega)] at h
  rw [pk_sub (by omega)]
  exact bd_n (by omega) (by omega)
theorem g_pack {nc nt h : Nat} {f g : Nat → Int32} (u v z : Int32) (G : GS nc nt f g h) : GS nc nt (sel (kPack nc f u v z) (packF f u.toNatClampNeg v z) f) g h := by
  refine gs_f G (fun hk => ?_)
  obtain ⟨h4, -, hI, -, h0⟩ := G
  unfold kPack at hk
  split at hk
  · next hu =>
    split at hk
    · next hv =>
      split at hk
      · next hz =>
        split at hk
        · exact absurd hk (by decide)
        · next k1 =>
          split at hk
          · exact absurd hk (by decide)
          · next k2 =>
            obtain ⟨i, hi, rfl⟩ := inR_n (by omega) hu
            rw [nI_clamp (by omega)]
            obtain ⟨b1, b2, b3⟩ := hI.2.1 i (by omega)
            refine ⟨?_, (s3_o (k := 7 + 3 * i) (Or.inl (by omega))).trans ((up_o (by decide)).trans ((up_o (by decide)).trans h0))⟩
            have e1 := hI.up (k := 1) (x := f 1 - v) (Or.inr (Or.inr (Or.inr (Or.inl ⟨rfl, bd_sub 900 60 (by decide) (by decide) hI.1.1 hv k1⟩))))
            have e2 := e1.up (k := 2) (x := f 2 - z) (Or.inr (Or.inr (Or.inr (Or.inr ⟨Or.inl rfl, bd_sub 300 60 (by decide) (by decide) hI.1.2.1 hz k2⟩))))
            refine e2.churn (by omega) ?_ b2 b3
            obtain ⟨d, hd, ed⟩ := of_bd (n := 30) (by decide) b1
            obtain ⟨x, hx, rfl⟩ := cIn_n 60 (by decide) hv.1 hv.2
            obtain ⟨y, hy, rfl⟩ := cIn_n 60 (by decide) hz.1 hz.2
            rw [ed, brine_n hd hx (by omega)]
            exact bd_n (n := 30) (by omega) (by decide)
      · exact absurd hk (by decide)
    · exact absurd hk (by decide)
  · exact absurd hk (by decide)
theorem g_pour {nc nt h : Nat} {f g : Nat → Int32} (u v : Int32) (G : GS nc nt f g h) : GS nc nt (sel (kPour nc f u v) (pourF f u.toNatClampNeg v) f) g h := by
  refine gs_f G (fun hk => ?_)
  obtain ⟨h4, -, hI, -, h0⟩ := G
  unfold kPour at hk
  split at hk
  · next hu =>
    split at hk
    · next hv =>
      split at hk
      · exact absurd hk (by decide)
      · next k1 =>
        split at hk
        · exact absurd hk (by decide)
        · next k2 =>
          obtain ⟨i, hi, rfl⟩ := inR_n (by omega) hu
          rw [nI_clamp (by omega)] at k2 ⊢
          obtain ⟨b1, b2, b3⟩ := hI.2.1 i (by omega)
          refine ⟨?_, (s3_o (k := 7 + 3 * i) (Or.inl (by omega))).trans ((up_o (by decide)).trans h0)⟩
          have hv0 : cIn v 0 (nI 20) := ⟨Int32.le_trans (by decide) hv.1, hv.2⟩
          have e1 := hI.up (k := 3) (x := f 3 - v) (Or.inr (Or.inr (Or.inr (Or.inr ⟨Or.inr (Or.inl rfl), bd_sub 300 20 (by decide) (by decide) hI.1.2.2.1 hv0 k1⟩))))
          obtain ⟨x, hx, ex⟩ := of_bd (n := 20) (by decide) b2
          obtain ⟨d, hd, ed⟩ := of_bd (n := 100) (by decide) b3
          obtain ⟨y, hy, rfl⟩ := cIn_n 20 (by decide) hv0.1 hv0.2
          have k3 : x + y ≤ 20 := by
            rw [ex, nI_add] at k2
            have e20 : (20 : Int32) = nI 20 := rfl
            rw [e20, nI_ltI (by decide) (by omega)] at k2
            omega
          refine e1.churn (by omega) b1 ?_ ?_
          · rw [ex, nI_add]
            exact bd_n (n := 20) k3 (by decide)
          · unfold addF
            split
            · exact bd_n (j := 0) (n := 100) (by omega) (by decide)
            · next hne =>
              rw [ex, ed, pk_mul, nI_add]
              have hxy : 0 < x + y := by
                rw [ex, nI_add] at hne
                have e0 : (0 : Int32) = nI 0 := rfl
                rw [e0, nI_eq (by omega) (by decide)] at hne
                omega
              have hdx : d * x ≤ 100 * 20 := Nat.mul_le_mul hd hx
              rw [dv (by omega) hxy (by omega)]
              refine bd_n (n := 100) ?_ (by decide)
              refine Nat.le_trans (Nat.div_le_of_le_mul (n := d) ?_) hd
              rw [Nat.mul_comm d x]
              exact Nat.mul_le_mul_right d (by omega)
    · exact absurd hk (by decide)
  · exact absurd hk (by decide)
theorem g_scoop {nc nt h : Nat} {f g : Nat → Int32} (u v : Int32) (G : GS nc nt f g h) : GS nc nt (sel (kScoop nc nt f u v) (scoopF f u.toNatClampNeg v.toNatClampNeg) f) g h := by
  refine gs_f G (fun hk => ?_)
  obtain ⟨h4, h6, hI, -, h0⟩ := G
  unfold kScoop at hk
  split at hk
  · next hu =>
    split at hk
    · next hv =>
      obtain ⟨i, hi, rfl⟩ := inR_n (by omega) hu
      obtain ⟨t, ht, rfl⟩ := inR_n (by omega) hv
      rw [nI_clamp (by omega), nI_clamp (by omega)]
      obtain ⟨b1, b2, b3⟩ := hI.2.1 i (by omega)
      obtain ⟨t1, t2⟩ := hI.2.2 t (by omega)
      refine ⟨?_, (s3_o (k := 7 + 3 * i) (Or.inl (by omega))).trans ((s3_o (k := 19 + 3 * t) (Or.inl (by omega))).trans h0)⟩
      obtain ⟨x, hx, ex⟩ := of_bd (n := 20) (by decide) b2
      obtain ⟨d, hd, ed⟩ := of_bd (n := 100) (by decide) b3
      obtain ⟨a, ha, ea⟩ := of_bd (n := 60) (by decide) t1
      obtain ⟨k, hk9, ek⟩ := of_bd (n := 100) (by decide) t2
      have e60 : (60 : Int32) = nI 60 := rfl
      have e100 : (100 : Int32) = nI 100 := rfl
      have e2 : (2 : Int32) = nI 2 := rfl
      refine (hI.tub (i := t) (by omega) ?_ ?_).churn (by omega) b1 (bd_n (j := 0) (n := 20) (by omega) (by decide)) (bd_n (j := 0) (n := 100) (by omega) (by decide))
      · rw [ea, ex, e2, pk_mul, nI_add, e60, mn_n (by decide) (by omega)]
        exact bd_n (n := 60) (by omega) (by decide)
      · rw [ek, ed, e100, pk_sub (by omega), mx_n (by omega) (by omega)]
        exact bd_n (n := 100) (by omega) (by decide)
    · exact absurd hk (by decide)
  · exact absurd hk (by decide)
theorem g_pass {nc nt h : Nat} {f g : Nat → Int32} (u : Int32) (G : GS nc nt f g h) (hh : h < 2 ^ 29) : ∃ h', h' ≤ h + 168 ∧ GS nc nt (sel (kPass u) (rep (hourF nc nt g) u.toNatClampNeg f) f) g h' := by
  by_cases hk : kPass u = 0
  · rw [hk, sel_0]
    unfold kPass at hk
    split at hk
    · next hu =>
      obtain ⟨r, hr9, hr1, rfl⟩ := cIn_1 hu
      rw [nI_clamp (by omega)]
      obtain ⟨h4, h6, hI, hg, h0⟩ := G
      obtain ⟨q1, q2⟩ := Inv.hours hI hg h4 h6 h0 r (by omega)
      exact ⟨h + r, by omega, h4, h6, q1, hg, q2⟩
    · exact absurd hk (by decide)
  · refine ⟨h, by omega, ?_⟩
    unfold sel
    rw [if_neg hk]
    exact G
theorem updL_0 {w : Nat → Int64} {x : Int64} : vp_updL w 0 x 0 = x := by simp [vp_updL]
def LE (p : Program) (l : Launch) (s : State) (m : MethodId) (args : Array Value) (c : Code) (A0 : Nat → Prop) (b L : Nat) (xs : Nat → Int32) (D : va_G) (cI cC cT cL : ClassId) : Prop :=
  p.tables.exec = Jvm.exec ∧ c.code = code ∧ c.maxLocals = 9 ∧ s.vm.findClass RL = some m.cls ∧ (∀ w ∈ wsL_law, w.before args s = true) ∧ va_K D vwCl (TY cI cC cT cL) s ∧ ST A0 s ∧ va_X b L xs s s.heap ∧ b < s.heap.size ∧ ¬ A0 b ∧ (∀ q : Nat, s.heap.size ≤ q → A0 q) ∧ l.stackTraces = false
def LK (p : Program) (l : Launch) (e : Env) (s : State) (m : MethodId) (args : Array Value) (below : List Frame) (meth : Method) (c : Code) (Q : State → Prop) (A0 : Nat → Prop) (b : Nat) (D : va_G) (cI cC cT cL : ClassId) (x : Nat) (A B : Nat → Nat) (ob : Nat) (M : Nat → Nat) (j h cells slots : Nat) : Prop :=
  ∀ (nc nt : Nat) (f g : Nat → Int32) (w : Nat → Int64) (nc2 nt2 : Nat) (f2 g2 : Nat → Int32) (th : Int32) (k : Nat → Int32) (h' : Nat) (H : Heap) (locs : List Loc) (ls : Array Slot), GS nc nt f g h' → h' ≤ h + 168 →
    va_P D vwCl (LV cI cC cT cL x A B ob M nc nt f g w nc2 nt2 f2 g2 th nc nt f k g) H → va_D A0 (LV cI cC cT cL x A B ob M nc nt f g w nc2 nt2 f2 g2 th nc nt f k g) → va_S A0 s.heap H locs →
    lv_has ls 9 [(4, .int (nI (4 * j))), (3, .ref ob), (2, .ref (M 0)), (1, .ref x), (0, .ref b)] → W p l e room_1 s m args below meth c H locs (cells + 20) (slots + 200) Q (F0 m 1085 ls [])
