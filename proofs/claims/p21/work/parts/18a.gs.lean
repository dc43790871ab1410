/-! what both sides keep: bounds, the hour, what isn't there yet is 0, an empty churn is firm by 0, what was sold is no more than ten an hour -/
def GS (nc nt : Nat) (f g : Nat → Int32) (h : Nat) : Prop := nc ≤ 4 ∧ nt ≤ 6 ∧ Inv f ∧ Gd g ∧ f 0 = nI h
def Zr (nc nt : Nat) (f : Nat → Int32) : Prop := (∀ i, nc ≤ i → i < 4 → f (7 + 3 * i) = 0 ∧ f (8 + 3 * i) = 0 ∧ f (9 + 3 * i) = 0) ∧ (∀ t, nt ≤ t → t < 6 → f (19 + 3 * t) = 0 ∧ f (20 + 3 * t) = 0 ∧ f (21 + 3 * t) = 0)
def ExC (f : Nat → Int32) : Prop := ∀ i, i < 4 → f (8 + 3 * i) = 0 → f (9 + 3 * i) = 0
def ExT (f : Nat → Int32) (n : Nat) : Prop := ∀ t, t < 6 → ∃ x, x ≤ n ∧ f (21 + 3 * t) = nI x
def GS2 (nc nt : Nat) (f g : Nat → Int32) (h : Nat) : Prop := GS nc nt f g h ∧ Zr nc nt f ∧ ExC f ∧ ExT f (10 * h)
section GZ
variable {nc nt h i t k n : Nat} {f g : Nat → Int32} {x y z : Int32}
theorem zr_up (hk : k < 7) (H : Zr nc nt f) : Zr nc nt (upd f k x) :=
  ⟨fun i h1 h2 => by rw [up_o (by omega), up_o (by omega), up_o (by omega)]; exact H.1 i h1 h2, fun t h1 h2 => by rw [up_o (by omega), up_o (by omega), up_o (by omega)]; exact H.2 t h1 h2⟩
theorem zr_c (hi : i < nc) (h4 : nc ≤ 4) (H : Zr nc nt f) : Zr nc nt (set3 f (7 + 3 * i) x y z) :=
  ⟨fun j h1 h2 => by rw [s3_o (by omega), s3_o (by omega), s3_o (by omega)]; exact H.1 j h1 h2, fun t h1 h2 => by rw [s3_o (by omega), s3_o (by omega), s3_o (by omega)]; exact H.2 t h1 h2⟩
theorem zr_t (ht : t < nt) (H : Zr nc nt f) : Zr nc nt (set3 f (19 + 3 * t) x y z) :=
  ⟨fun j h1 h2 => by rw [s3_o (by omega), s3_o (by omega), s3_o (by omega)]; exact H.1 j h1 h2, fun j h1 h2 => by rw [s3_o (by omega), s3_o (by omega), s3_o (by omega)]; exact H.2 j h1 h2⟩
theorem ec_up (hk : k < 7) (H : ExC f) : ExC (upd f k x) := fun i hi h => by
  rw [up_o (by omega)] at h ⊢
  exact H i hi h
theorem ec_c (hi : i < 4) (hz : y = 0 → z = 0) (H : ExC f) : ExC (set3 f (7 + 3 * i) x y z) := fun j hj h => by
  by_cases e : j = i
  · subst e
    rw [s7_1] at h
    rw [s7_2]
    exact hz h
  · rw [s3_o (by omega)] at h ⊢
    exact H j hj h
theorem ec_t (H : ExC f) : ExC (set3 f (19 + 3 * t) x y z) := fun j hj h => by
  rw [s3_o (by omega)] at h ⊢
  exact H j hj h
theorem et_up (hk : k < 7) (H : ExT f n) : ExT (upd f k x) n := fun t ht => by
  rw [up_o (by omega)]
  exact H t ht
theorem et_c (hi : i < 4) (H : ExT f n) : ExT (set3 f (7 + 3 * i) x y z) n := fun t ht => by
  rw [s3_o (by omega)]
  exact H t ht
theorem et_t (hz : ∃ q, q ≤ n ∧ z = nI q) (H : ExT f n) : ExT (set3 f (19 + 3 * t) x y z) n := fun j hj => by
  by_cases e : j = t
  · subst e
    rw [s19_2]
    exact hz
  · rw [s3_o (by omega)]
    exact H j hj
theorem et_le {m : Nat} (hm : n ≤ m) (H : ExT f n) : ExT f m := fun t ht => by
  obtain ⟨q, h1, h2⟩ := H t ht
  exact ⟨q, by omega, h2⟩
theorem fo_P {P : (Nat → Int32) → Prop} {F : Nat → (Nat → Int32) → Nat → Int32} {N : Nat} (hF : ∀ f i, i < N → P f → P (F i f)) (hf : P f) : ∀ n, n ≤ N → P (fo F n f) := by
  intro n
  induction n with
  | zero => intro _; exact hf
  | succ n ih => intro h; exact hF _ n (by omega) (ih (by omega))
end GZ
theorem cIn_bd {x : Int32} (n : Nat) (hn : n < 2 ^ 31) (h : cIn x 0 (nI n)) : Bd0 x n := by
  obtain ⟨j, hj, e⟩ := cIn_n n hn h.1 h.2
  rw [e]
  exact bd_n hj hn
section GG
variable {nc nt h i t k n : Nat} {f g : Nat → Int32}
theorem g_bring (w m : Nat) (hw : w < 4) (h1 : 1 ≤ m) (h3 : m ≤ 300) (G : GS2 nc nt f g h) : GS2 nc nt (bringF f w (nI m)) g h := by
  obtain ⟨⟨g1, g2, hI, hg, h0⟩, hz, hc, ht⟩ := G
  unfold bringF
  refine ⟨⟨g1, g2, ?_, hg, (up_o (by omega)).trans h0⟩, zr_up (by omega) hz, ec_up (by omega) hc, et_up (by omega) ht⟩
  have bd : ∀ (a : Int32) (N : Nat), N ≤ 900 → Bd0 a N → Bd0 (imn (nI N) (a + nI m)) N := fun a N hN ha => by
    obtain ⟨x, hx, rfl⟩ := of_bd (by omega) ha
    rw [nI_add, mn_n (by omega) (by omega)]
    exact bd_n (by omega) (by omega)
  rcases (show w = 0 ∨ w = 1 ∨ w = 2 ∨ w = 3 by omega) with rfl | rfl | rfl | rfl
  · exact hI.up (Or.inr (Or.inr (Or.inr (Or.inl ⟨rfl, bd _ 900 (by decide) hI.1.1⟩))))
  · exact hI.up (Or.inr (Or.inr (Or.inr (Or.inr ⟨Or.inl rfl, bd _ 300 (by decide) hI.1.2.1⟩))))
  · exact hI.up (Or.inr (Or.inr (Or.inr (Or.inr ⟨Or.inr (Or.inl rfl), bd _ 300 (by decide) hI.1.2.2.1⟩))))
  · exact hI.up (Or.inr (Or.inr (Or.inr (Or.inr ⟨Or.inr (Or.inr rfl), bd _ 300 (by decide) hI.1.2.2.2⟩))))
theorem g_heat (j v : Nat) (hv : v ≤ 40) (G : GS2 nc nt f g h) : GS2 nc nt f (upd g j (nI v)) h := by
  obtain ⟨⟨g1, g2, hI, hg, h0⟩, hz, hc, ht⟩ := G
  refine ⟨⟨g1, g2, hI, fun k hk => ?_, h0⟩, hz, hc, ht⟩
  by_cases e : k = j
  · rw [e, up_s]
    exact bd_n (n := 40) hv (by decide)
  · rw [up_o e]
    exact hg k hk
theorem g_churn (hn : nc < 4) (G : GS2 nc nt f g h) : GS2 (nc + 1) nt f g h := by
  obtain ⟨⟨g1, g2, hI, hg, h0⟩, hz, hc, ht⟩ := G
  exact ⟨⟨by omega, g2, hI, hg, h0⟩, ⟨fun i h1 h2 => hz.1 i (by omega) h2, hz.2⟩, hc, ht⟩
theorem g_tub (hn : nt < 6) (G : GS2 nc nt f g h) : GS2 nc (nt + 1) f g h := by
  obtain ⟨⟨g1, g2, hI, hg, h0⟩, hz, hc, ht⟩ := G
  exact ⟨⟨g1, by omega, hI, hg, h0⟩, ⟨hz.1, fun i h1 h2 => hz.2 i (by omega) h2⟩, hc, ht⟩
theorem brine_n {d x t : Nat} (hd : d ≤ 30) (hx : x ≤ 60) (ht : t ≤ 61) : brine (nI d) (nI x) (nI t) = nI (min 30 (d + x / 4 + min t (2 * (x / 4)))) := by
  have e4 : nI x / 4 = nI (x / 4) := dv (d := 4) (by omega) (by decide) (by decide)
  have e2 : (2 : Int32) = nI 2 := rfl
  have e30 : (30 : Int32) = nI 30 := rfl
  rw [brine, e4, e2, pk_mul, mn_n (by omega) (by omega), nI_add, nI_add, e30, mn_n (by decide) (by omega)]
theorem bd_sub {a : Int32} (n k : Nat) (hn : n < 2 ^ 30) (hk : k < 2 ^ 30) (ha : Bd0 a n) (h : ¬ a < nI k) : Bd0 (a - nI k) n := by
  obtain ⟨x, hx, rfl⟩ := of_bd (by omega) ha
  rw [nI_ltI (by omega) (by omega)] at h
  rw [pk_sub (by omega)]
  exact bd_n (by omega) (by omega)
theorem g_pack (a s : Nat) (hi : i < nc) (ha : a ≤ 60) (hs : s ≤ 60) (k1 : ¬ f 1 < nI a) (k2 : ¬ f 2 < nI s) (G : GS2 nc nt f g h) : GS2 nc nt (packF f i (nI a) (nI s)) g h := by
  obtain ⟨⟨g1, g2, hI, hg, h0⟩, hz, hc, ht⟩ := G
  unfold packF
  obtain ⟨b1, b2, b3⟩ := hI.2.1 i (by omega)
  refine ⟨⟨g1, g2, ?_, hg, (s3_o (k := 7 + 3 * i) (Or.inl (by omega))).trans ((up_o (by decide)).trans ((up_o (by decide)).trans h0))⟩, zr_c hi g1 (zr_up (by decide) (zr_up (by decide) hz)), ec_c (by omega) (hc i (by omega)) (ec_up (by decide) (ec_up (by decide) hc)), et_c (by omega) (et_up (by decide) (et_up (by decide) ht))⟩
  have e1 := hI.up (k := 1) (x := f 1 - nI a) (Or.inr (Or.inr (Or.inr (Or.inl ⟨rfl, bd_sub 900 a (by decide) (by omega) hI.1.1 k1⟩))))
  have e2 := e1.up (k := 2) (x := f 2 - nI s) (Or.inr (Or.inr (Or.inr (Or.inr ⟨Or.inl rfl, bd_sub 300 s (by decide) (by omega) hI.1.2.1 k2⟩))))
  refine e2.churn (by omega) ?_ b2 b3
  obtain ⟨d, hd, ed⟩ := of_bd (n := 30) (by decide) b1
  rw [ed, brine_n hd ha (by omega)]
  exact bd_n (n := 30) (by omega) (by decide)
theorem g_pour (m : Nat) (hi : i < nc) (h1 : 1 ≤ m) (hm : m ≤ 20) (k1 : ¬ f 3 < nI m) (k2 : ¬ 20 < f (8 + 3 * i) + nI m) (G : GS2 nc nt f g h) : GS2 nc nt (pourF f i (nI m)) g h := by
  obtain ⟨⟨g1, g2, hI, hg, h0⟩, hz, hc, ht⟩ := G
  unfold pourF
  obtain ⟨b1, b2, b3⟩ := hI.2.1 i (by omega)
  obtain ⟨x, hx, ex⟩ := of_bd (n := 20) (by decide) b2
  obtain ⟨d, hd, ed⟩ := of_bd (n := 100) (by decide) b3
  have e20 : (20 : Int32) = nI 20 := rfl
  have k3 : x + m ≤ 20 := by
    rw [ex, nI_add, e20, nI_ltI (by decide) (by omega)] at k2
    omega
  refine ⟨⟨g1, g2, ?_, hg, (s3_o (k := 7 + 3 * i) (Or.inl (by omega))).trans ((up_o (by decide)).trans h0)⟩, zr_c hi g1 (zr_up (by decide) hz), ec_c (by omega) (fun q => ?_) (ec_up (by decide) hc), et_c (by omega) (et_up (by decide) ht)⟩
  · have e1 := hI.up (k := 3) (x := f 3 - nI m) (Or.inr (Or.inr (Or.inr (Or.inr ⟨Or.inr (Or.inl rfl), bd_sub 300 m (by decide) (by omega) hI.1.2.2.1 k1⟩))))
    refine e1.churn (by omega) b1 ?_ ?_
    · rw [ex, nI_add]
      exact bd_n (n := 20) k3 (by decide)
    · unfold addF
      split
      · exact bd_n (j := 0) (n := 100) (by omega) (by decide)
      · rw [ex, ed, pk_mul, nI_add]
        have hdx : d * x ≤ 100 * 20 := Nat.mul_le_mul hd hx
        rw [dv (by omega) (by omega) (by omega)]
        refine bd_n (n := 100) ?_ (by decide)
        refine Nat.le_trans (Nat.div_le_of_le_mul (n := d) ?_) hd
        rw [Nat.mul_comm d x]
        exact Nat.mul_le_mul_right d (by omega)
  · rw [ex, nI_add] at q
    have e0 : (0 : Int32) = nI 0 := rfl
    rw [e0, nI_eq (by omega) (by decide)] at q
    omega
theorem g_scoop (hi : i < nc) (htn : t < nt) (G : GS2 nc nt f g h) : GS2 nc nt (scoopF f i t) g h := by
  obtain ⟨⟨g1, g2, hI, hg, h0⟩, hz, hc, ht⟩ := G
  unfold scoopF
  obtain ⟨b1, b2, b3⟩ := hI.2.1 i (by omega)
  obtain ⟨t1, t2⟩ := hI.2.2 t (by omega)
  refine ⟨⟨g1, g2, ?_, hg, (s3_o (k := 7 + 3 * i) (Or.inl (by omega))).trans ((s3_o (k := 19 + 3 * t) (Or.inl (by omega))).trans h0)⟩, zr_c hi g1 (zr_t htn hz), ec_c (by omega) (fun _ => rfl) (ec_t hc), et_c (by omega) (et_t (ht t (by omega)) ht)⟩
  obtain ⟨x, hx, ex⟩ := of_bd (n := 20) (by decide) b2
  obtain ⟨d, hd, ed⟩ := of_bd (n := 100) (by decide) b3
  obtain ⟨a, ha, ea⟩ := of_bd (n := 60) (by decide) t1
  obtain ⟨k, hk9, ek⟩ := of_bd (n := 100) (by decide) t2
  have e60 : (60 : Int32) = nI 60 := rfl
  have e100 : (100 : Int32) = nI 100 := rfl
  have e2 : (2 : Int32) = nI 2 := rfl
  refine (hI.tub (i := t) (by omega) ?_ ?_).churn (by omega) b1 (bd_n (j := 0) (n := 20) (by omega) (by decide)) (bd_n (j := 0) (n := 100) (by omega) (by decide))
  · rw [ea, ex, e2, pk_mul, nI_add, e60, mn_n (by decide) (by omega)]
    exact bd_n (n := 60) (by omega) (by decide)
  · rw [ek, ed, e100, pk_sub (by omega), mx_n (by omega) (by omega)]
    exact bd_n (n := 100) (by omega) (by decide)
/-! an hour -/
theorem g_sell {B : Nat} (h6 : nt ≤ 6) (H : Zr nc nt f ∧ ExC f ∧ ExT f B) : Zr nc nt (sell1 nt f) ∧ ExC (sell1 nt f) ∧ ExT (sell1 nt f) (B + 1) := by
  obtain ⟨hz, hc, ht⟩ := H
  unfold sell1
  split
  · exact ⟨zr_up (by decide) hz, ec_up (by decide) hc, et_le (by omega) (et_up (by decide) ht)⟩
  · next hn =>
    rcases nxt_in f nt with q | ⟨k, hk, e, hs⟩
    · exact absurd (Or.inl q) hn
    · rw [e, nI_clamp (by omega)]
      unfold sellT
      refine ⟨zr_up (by decide) (zr_t hk (zr_up (by decide) hz)), ec_up (by decide) (ec_t (ec_up (by decide) hc)), et_up (by decide) (et_t ?_ (et_up (by decide) (et_le (by omega) ht)))⟩
      obtain ⟨q, h1, h2⟩ := ht k (by omega)
      exact ⟨q + 1, by omega, by rw [h2, nI_succ]⟩
theorem g_hour (hh : h < 2 ^ 29) (G : GS2 nc nt f g h) : GS2 nc nt (hourF nc nt g f) g (h + 1) := by
  obtain ⟨⟨g1, g2, hI, hg, h0⟩, hz, hc, ht⟩ := G
  obtain ⟨i1, i2⟩ := hI.hour hg g1 g2 (h := h) (by omega) h0
  refine ⟨⟨g1, g2, i1, hg, i2⟩, ?_⟩
  have hb : Bd0 (hotOf f g) 40 := hg _ (Nat.mod_lt _ (by decide))
  obtain ⟨q, hq, eq⟩ := of_bd (n := 40) (by decide) hb
  have p1 : Zr nc nt (fo (turn1 (hotOf f g)) nc f) ∧ ExC (fo (turn1 (hotOf f g)) nc f) ∧ ExT (fo (turn1 (hotOf f g)) nc f) (10 * h) := by
    refine fo_P (P := fun F => Zr nc nt F ∧ ExC F ∧ ExT F (10 * h)) (N := nc) (fun F i hi H => ?_) ⟨hz, hc, ht⟩ nc (Nat.le_refl _)
    obtain ⟨a1, a2, a3⟩ := H
    refine ⟨zr_c hi g1 a1, ec_c (by omega) (fun e => ?_) a2, et_c (by omega) a3⟩
    rw [turnF, e, if_neg (by decide)]
    exact a2 i (by omega) e
  have p2 : Zr nc nt (fo (stand1 (hotOf f g)) nt (fo (turn1 (hotOf f g)) nc f)) ∧ ExC (fo (stand1 (hotOf f g)) nt (fo (turn1 (hotOf f g)) nc f)) ∧ ExT (fo (stand1 (hotOf f g)) nt (fo (turn1 (hotOf f g)) nc f)) (10 * h) := by
    refine fo_P (P := fun F => Zr nc nt F ∧ ExC F ∧ ExT F (10 * h)) (N := nt) (fun F i hi H => ?_) p1 nt (Nat.le_refl _)
    obtain ⟨a1, a2, a3⟩ := H
    exact ⟨zr_t hi a1, ec_t a2, et_t (a3 i (by omega)) a3⟩
  have p3 : Zr nc nt (serveF nt (hotOf f g) (fo (stand1 (hotOf f g)) nt (fo (turn1 (hotOf f g)) nc f))) ∧ ExC (serveF nt (hotOf f g) (fo (stand1 (hotOf f g)) nt (fo (turn1 (hotOf f g)) nc f))) ∧ ExT (serveF nt (hotOf f g) (fo (stand1 (hotOf f g)) nt (fo (turn1 (hotOf f g)) nc f))) (10 * (h + 1)) := by
    unfold serveF
    split
    · have e : (hotOf f g / 4).toNatClampNeg = q / 4 := by
        rw [eq, show nI q / 4 = nI (q / 4) from dv (d := 4) (by omega) (by decide) (by decide), nI_clamp (by omega)]
      rw [e]
      have r : ∀ n, Zr nc nt (rep (sell1 nt) n (fo (stand1 (hotOf f g)) nt (fo (turn1 (hotOf f g)) nc f))) ∧ ExC (rep (sell1 nt) n (fo (stand1 (hotOf f g)) nt (fo (turn1 (hotOf f g)) nc f))) ∧ ExT (rep (sell1 nt) n (fo (stand1 (hotOf f g)) nt (fo (turn1 (hotOf f g)) nc f))) (10 * h + n) := by
        intro n
        induction n with
        | zero => exact p2
        | succ n ih => exact g_sell g2 ih
      obtain ⟨r1, r2, r3⟩ := r (q / 4)
      exact ⟨r1, r2, et_le (by omega) r3⟩
    · exact ⟨p2.1, p2.2.1, et_le (by omega) p2.2.2⟩
  have p4 : Zr nc nt (tickF (hourT nc nt (hotOf f g) f)) ∧ ExC (tickF (hourT nc nt (hotOf f g) f)) ∧ ExT (tickF (hourT nc nt (hotOf f g) f)) (10 * (h + 1)) :=
    ⟨zr_up (by decide) (zr_up (by decide) p3.1), ec_up (by decide) (ec_up (by decide) p3.2.1), et_up (by decide) (et_up (by decide) p3.2.2)⟩
  refine fo_P (P := fun F => Zr nc nt F ∧ ExC F ∧ ExT F (10 * (h + 1))) (N := nt) (fun F i hi H => ?_) p4 nt (Nat.le_refl _)
  obtain ⟨a1, a2, a3⟩ := H
  exact ⟨zr_t hi a1, ec_t a2, et_t (a3 i (by omega)) a3⟩
theorem g_0 : GS2 0 0 (fun _ => 0) (fun _ => 20) 0 := by
  have z : ∀ n : Nat, Bd0 0 n := fun n => ⟨by decide, by rw [show (0 : Int32).toInt = 0 by decide]; omega⟩
  refine ⟨⟨by decide, by decide, ⟨⟨z 900, z 300, z 300, z 300⟩, fun i _ => ⟨z 30, z 20, z 100⟩, fun i _ => ⟨z 60, z 100⟩⟩, fun k _ => ?_, rfl⟩, ⟨fun _ _ _ => ⟨rfl, rfl, rfl⟩, fun _ _ _ => ⟨rfl, rfl, rfl⟩⟩, fun _ _ _ => rfl, fun _ _ => ⟨0, by omega, rfl⟩⟩
  show Bd0 20 40
  exact ⟨by decide, by decide⟩
end GG
