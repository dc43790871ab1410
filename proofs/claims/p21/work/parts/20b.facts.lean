/-! an hour's facts, as the law compares them -/
section HF
variable {nc nt h : Nat} {f g : Nat → Int32}
theorem c_5 : cntF nt f g 5 = f 4 := rfl
theorem c_6 : cntF nt f g 6 = f 5 := rfl
theorem c_7 : cntF nt f g 7 = sumS f nt := rfl
theorem c_8 : cntF nt f g 8 = sumD f nt := rfl
theorem c_9 : cntF nt f g 9 = f 6 := rfl
theorem sumS_le (hn : ∀ t, t < nt → f (19 + 3 * t) = 0) : sumS f nt = 0 := by
  have : ∀ n, n ≤ nt → sumS f n = 0 := by
    intro n
    induction n with
    | zero => exact fun _ => rfl
    | succ n ih =>
      intro h
      show sumS f n + f (19 + 3 * n) = 0
      rw [ih (by omega), hn n (by omega)]
      rfl
  exact this nt (Nat.le_refl _)
theorem le0_0 {x : Int32} {n : Int} (hb : Bd0 x n) (h : x ≤ 0) : x = 0 := by
  rw [i_le, show (0 : Int32).toInt = 0 by decide] at h
  rw [i_eq, show (0 : Int32).toInt = 0 by decide]
  have := hb.1
  omega
theorem hour_sells (G : GS2 nc nt f g h) (hh : h < 2 ^ 29) : ∃ s a p : Nat, s + a ≤ 10 ∧ cntF nt (hourF nc nt g f) g 8 - cntF nt f g 8 = nI s ∧ cntF nt (hourF nc nt g f) g 9 - cntF nt f g 9 = nI a ∧ hourF nc nt g f 5 - f 5 = nI p ∧ 2 * s ≤ p ∧ p ≤ 3 * s ∧ cntF nt f g 5 - cntF nt (hourF nc nt g f) g 5 = nI s ∧ (a = 0 ∨ cntF nt (hourF nc nt g f) g 5 ≤ 0 ∨ cntF nt (hourF nc nt g f) g 7 ≤ 0) ∧
    (10 ≤ f 0 - f 0 / 24 * 24 ∧ f 0 - f 0 / 24 * 24 ≤ 18 → nI s + nI a = cntF nt f g 1 / 4) ∧ (¬ (10 ≤ f 0 - f 0 / 24 * 24 ∧ f 0 - f 0 / 24 * 24 ≤ 18) → nI s + nI a = 0) := by
  obtain ⟨q, n, F, hq, hhot, hn, hIF, f4, f5, f6, hF, n3, n4, r4, r5, r6, rT⟩ := hour_sv (g := g) G
  have hI' := (g_hour hh G).1.2.2.1
  have h6 : nt ≤ 6 := G.1.2.1
  obtain ⟨s, a, p, e0, e1, e2, e3, e4, e5, e6, e7, e8⟩ := sv_rep (F := F) h6 n
  have hd : sumD (hourF nc nt g f) nt = sumD f nt + nI s := by
    rw [sumD_cg (f' := rep (sell1 nt) n F) nt (fun t ht => (rT t ht).2.2), e1, sumD_cg (f := F) (f' := f) nt (fun t ht => (hF t ht).2.2)]
  refine ⟨s, a, p, by omega, ?_, ?_, ?_, e5, e6, ?_, ?_, fun hc => ?_, fun hc => ?_⟩
  · rw [c_8, c_8, hd]
    grind
  · rw [c_9, c_9, r6, e2, f6]
    grind
  · rw [r5, e4, f5]
    grind
  · rw [c_5, c_5, r4, e3, f4]
    grind
  · rcases e8 with w | w | w
    · exact Or.inl w
    · refine Or.inr (Or.inl ?_)
      rw [c_5, r4, w]
      decide
    · refine Or.inr (Or.inr ?_)
      rw [c_7, sumS_le (fun t ht => ?_)]
      · decide
      · have h1 := w t ht
        rw [← (rT t ht).1] at h1
        exact le0_0 (hI'.2.2 t (by omega)).1 h1
  · rw [nI_add, e0, n3 hc]
    show nI (q / 4) = hotOf f g / 4
    rw [hhot, q4 hq]
  · rw [nI_add, e0, n4 hc]
    rfl
theorem hour_tub (G : GS2 nc nt f g h) (hh : h < 2 ^ 27) (t : Nat) (ht : t < nt) : ∃ gn : Nat, gn ≤ 2 ∧ f (19 + 3 * t) - hourF nc nt g f (19 + 3 * t) - (hourF nc nt g f (21 + 3 * t) - f (21 + 3 * t)) = nI gn ∧
    (0 < hourF nc nt g f (19 + 3 * t) → ((nI gn = 2 ↔ hourF nc nt g f (20 + 3 * t) = 100) ∧ hourF nc nt g f (20 + 3 * t) = softB (f (20 + 3 * t)) (hotOf f g) (f 1))) ∧
    (hourF nc nt g f (19 + 3 * t) = 0 → hourF nc nt g f (20 + 3 * t) = 0) ∧ f (21 + 3 * t) ≤ hourF nc nt g f (21 + 3 * t) := by
  obtain ⟨q, n, F, hq, hhot, hn, hIF, f4, f5, f6, hF, n3, n4, r4, r5, r6, rT⟩ := hour_sv (g := g) G
  have h6 : nt ≤ 6 := G.1.2.1
  obtain ⟨s, a, p, e0, e1, e2, e3, e4, e5, e6, e7, e8⟩ := sv_rep (F := F) h6 n
  obtain ⟨y, y1, y2, y3, y4⟩ := e7 t ht
  obtain ⟨a1, a2, a3⟩ := hF t ht
  obtain ⟨t1, t2, t3⟩ := rT t ht
  obtain ⟨x, hx, ex⟩ := G.2.2.2 t (by omega)
  obtain ⟨bs, -⟩ := G.1.2.2.1.2.2 t (by omega)
  obtain ⟨sc, hsc, esc⟩ := of_bd (n := 60) (by decide) bs
  have hgone : ∃ gn : Nat, gn ≤ 2 ∧ f (19 + 3 * t) - F (19 + 3 * t) = nI gn ∧ (F (19 + 3 * t) ≠ 0 → (gn = 2 ↔ softB (f (20 + 3 * t)) (nI q) (f 1) = 100) ∧ F (20 + 3 * t) = softB (f (20 + 3 * t)) (nI q) (f 1)) ∧ (f (19 + 3 * t) = 0 → F (19 + 3 * t) = 0) := by
    rw [a1, a2]
    unfold standA standB
    by_cases z : f (19 + 3 * t) = 0
    · rw [if_pos z, if_pos z, z]
      exact ⟨0, by omega, by decide, fun k => absurd rfl k, fun _ => rfl⟩
    · rw [if_neg z, if_neg z]
      by_cases w : softB (f (20 + 3 * t)) (nI q) (f 1) = 100
      · rw [if_pos w]
        have e2' : (2 : Int32) = nI 2 := rfl
        rw [esc, e2', mx_sub (by omega) (by decide)]
        refine ⟨min sc 2, by omega, ?_, fun k => ⟨⟨fun _ => w, fun _ => ?_⟩, rfl⟩, fun k => absurd (esc.trans k) z⟩
        · rw [pk_sub (by omega)]
          congr 1
          omega
        · have : sc - 2 ≠ 0 := fun k' => k (by rw [k']; rfl)
          omega
      · rw [if_neg w]
        exact ⟨0, by omega, by rw [Int32.sub_self]; rfl, fun _ => ⟨⟨fun k => by omega, fun k => absurd k w⟩, rfl⟩, fun k => absurd k z⟩
  obtain ⟨gn, g1, g2, g3, g4⟩ := hgone
  refine ⟨gn, g1, ?_, fun hp => ?_, fun hz => ?_, ?_⟩
  · rw [t1, t3, y2, y3, a3]
    have : f (19 + 3 * t) - (F (19 + 3 * t) - nI y) - (f (21 + 3 * t) + nI y - f (21 + 3 * t)) = f (19 + 3 * t) - F (19 + 3 * t) := by grind
    rw [this, g2]
  · rw [t1] at hp
    have hne : ¬ rep (sell1 nt) n F (19 + 3 * t) = 0 := fun k => by
      rw [k] at hp
      exact absurd hp (by decide)
    have hF0 : F (19 + 3 * t) ≠ 0 := fun k => by
      have hR := (Inv.rep_ (F := sell1 nt) (fun f h => h.sell h6) hIF n).2.2 t (by omega)
      obtain ⟨r, hr, er⟩ := of_bd (n := 60) (by decide) hR.1
      rw [y2, k] at er
      have : nI r + nI y = 0 := by grind
      rw [nI_add] at this
      have e0' : (0 : Int32) = nI 0 := rfl
      rw [e0', nI_eq (by omega) (by decide)] at this
      have hr0 : r = 0 := by omega
      have hy0 : y = 0 := by omega
      rw [y2, k, hy0] at hne
      exact hne (by decide)
    obtain ⟨k1, k2⟩ := g3 hF0
    have e20 : hourF nc nt g f (20 + 3 * t) = softB (f (20 + 3 * t)) (hotOf f g) (f 1) := by
      rw [t2, forgB, if_neg hne, y4, k2, hhot]
    refine ⟨?_, e20⟩
    rw [e20, hhot, ← k1]
    have e2' : (2 : Int32) = nI 2 := rfl
    rw [e2', nI_eq (by omega) (by decide)]
  · rw [t1] at hz
    rw [t2, forgB, if_pos hz]
  · rw [t3, y3, a3, ex, nI_add]
    exact nI_le (by omega) (by omega)
/-- what is molten, up to a tub -/
def meltS (f F : Nat → Int32) : Nat → Int32
  | 0 => 0
  | n + 1 => meltS f F n + (f (19 + 3 * n) - F (19 + 3 * n) - (F (21 + 3 * n) - f (21 + 3 * n)))
theorem melt_sum (f F : Nat → Int32) : ∀ n, sumS F n = sumS f n - (sumD F n - sumD f n) - meltS f F n := by
  intro n
  induction n with
  | zero => show (0 : Int32) = 0 - (0 - 0) - 0; decide
  | succ n ih =>
    show sumS F n + F (19 + 3 * n) = sumS f n + f (19 + 3 * n) - (sumD F n + F (21 + 3 * n) - (sumD f n + f (21 + 3 * n))) - (meltS f F n + (f (19 + 3 * n) - F (19 + 3 * n) - (F (21 + 3 * n) - f (21 + 3 * n))))
    rw [ih]
    grind
/-! the ice, hour by hour -/
theorem ice_sh (G : GS2 nc nt f g h) (hh : h < 2 ^ 29) : ∀ n, iceN (hourF nc nt g f) g (h + 1) n = iceN f g h (n + 1) := by
  obtain ⟨⟨-, -, -, -, h0⟩, -⟩ := G
  intro n
  induction n with
  | zero =>
    show hourF nc nt g f 1 = iceA (f 1) (f 0 + nI 0) (g ((h + 0) / 24 % 7))
    rw [hour_1, hotOf, hrN, h0, nI_clamp (by omega)]
    rw [show nI h + nI 0 = nI h from nI_add h 0]
    rfl
  | succ n ih =>
    show iceA (iceN (hourF nc nt g f) g (h + 1) n) (hourF nc nt g f 0 + nI n) (g ((h + 1 + n) / 24 % 7)) = iceA (iceN f g h (n + 1)) (f 0 + nI (n + 1)) (g ((h + (n + 1)) / 24 % 7))
    rw [ih, hour_0, show h + 1 + n = h + (n + 1) by omega, nI_succ]
    congr 1
    grind
theorem fd0_at {fm : Nat → Int32} : ∀ n k, k + n < 2 ^ 31 → (fd0 fm n k = -1 ∧ ∀ i, k ≤ i → i < k + n → ¬ fm i = 0) ∨ ∃ i, k ≤ i ∧ i < k + n ∧ fd0 fm n k = nI i ∧ fm i = 0 ∧ ∀ j, k ≤ j → j < i → ¬ fm j = 0 := by
  intro n
  induction n with
  | zero => exact fun k _ => Or.inl ⟨rfl, fun i h1 h2 => by omega⟩
  | succ n ih =>
    intro k hk
    by_cases z : fm k = 0
    · exact Or.inr ⟨k, Nat.le_refl _, by omega, if_pos z, z, fun j h1 h2 => by omega⟩
    · have e : fd0 fm (n + 1) k = fd0 fm n (k + 1) := if_neg z
      rw [e]
      rcases ih (k + 1) (by omega) with ⟨h1, h2⟩ | ⟨i, h1, h2, h3, h4, h5⟩
      · refine Or.inl ⟨h1, fun i g1 g2 => ?_⟩
        by_cases q : i = k
        · subst q; exact z
        · exact h2 i (by omega) (by omega)
      · refine Or.inr ⟨i, by omega, by omega, h3, h4, fun j g1 g2 => ?_⟩
        by_cases q : j = k
        · subst q; exact z
        · exact h5 j (by omega) g2
theorem fd0_u {fm : Nat → Int32} {n k i : Nat} (hn : k + n < 2 ^ 31) (h1 : k ≤ i) (h2 : i < k + n) (hi : fm i = 0) (hj : ∀ j, k ≤ j → j < i → ¬ fm j = 0) : fd0 fm n k = nI i := by
  rcases fd0_at n k hn with ⟨-, g⟩ | ⟨i', g1, g2, g3, g4, g5⟩
  · exact absurd hi (g i h1 h2)
  · rcases Nat.lt_trichotomy i i' with q | q | q
    · exact absurd hi (g5 i h1 q)
    · rw [g3, q]
    · exact absurd g4 (hj i' g1 q)
theorem lasts_0 : (fd0 (iceN f g h) 1000 0 = 0) ↔ f 1 = 0 := by
  refine ⟨fun q => ?_, fun q => if_pos q⟩
  rcases fd0_at (fm := iceN f g h) 1000 0 (by decide) with ⟨g1, -⟩ | ⟨i, -, g2, g3, g4, -⟩
  · rw [g1] at q
    exact absurd q (by decide)
  · rw [g3] at q
    have e0 : (0 : Int32) = nI 0 := rfl
    rw [e0, nI_eq (by omega) (by decide)] at q
    subst q
    exact g4
theorem lasts_1 (G : GS2 nc nt f g h) (hh : h < 2 ^ 29) (hp : ¬ fd0 (iceN f g h) 1000 0 ≤ 0) : fd0 (iceN (hourF nc nt g f) g (h + 1)) 1000 0 = fd0 (iceN f g h) 1000 0 - 1 := by
  rcases fd0_at (fm := iceN f g h) 1000 0 (by decide) with ⟨g1, -⟩ | ⟨i, -, g2, g3, g4, g5⟩
  · rw [g1] at hp
    exact absurd (by decide) hp
  · rw [g3] at hp ⊢
    have hi : 0 < i := Nat.pos_of_ne_zero (fun q => hp (by rw [q]; decide))
    obtain ⟨j, rfl⟩ : ∃ j, i = j + 1 := ⟨i - 1, by omega⟩
    rw [nI_pred]
    refine fd0_u (by decide) (by omega) (by omega) ?_ (fun k _ hk => ?_)
    · rw [ice_sh G hh]
      exact g4
    · rw [ice_sh G hh]
      exact g5 (k + 1) (by omega) (by omega)
/-! a churn, hour by hour -/
theorem ch_sh (G : GS2 nc nt f g h) (hh : h < 2 ^ 29) {i : Nat} (hi : i < nc) (hp : ¬ f (8 + 3 * i) = 0) : ∀ n, coldN g (h + 1) (hourF nc nt g f (7 + 3 * i)) n = coldN g h (f (7 + 3 * i)) (n + 1) ∧ firmN g (h + 1) (hourF nc nt g f (7 + 3 * i)) (hourF nc nt g f (9 + 3 * i)) n = firmN g h (f (7 + 3 * i)) (f (9 + 3 * i)) (n + 1) := by
  obtain ⟨⟨g1, g2, hI, -, h0⟩, -⟩ := G
  obtain ⟨c1, c2, c3⟩ := hour_ch (f := f) (g := g) (nt := nt) g1 hi
  have hb : 0 < f (8 + 3 * i) := by
    have b := (hI.2.1 i (by omega)).2.1
    rw [i_lt, show (0 : Int32).toInt = 0 by decide]
    rw [i_eq, show (0 : Int32).toInt = 0 by decide] at hp
    have := b.1
    omega
  have ehot : hotOf f g = g ((h + 0) / 24 % 7) := by rw [hotOf, hrN, h0, nI_clamp (by omega)]; rfl
  intro n
  induction n with
  | zero =>
    refine ⟨?_, ?_⟩
    · show hourF nc nt g f (7 + 3 * i) = coldA (f (7 + 3 * i)) (g ((h + 0) / 24 % 7))
      rw [c1, ehot]
    · show hourF nc nt g f (9 + 3 * i) = firmA (f (9 + 3 * i)) (f (7 + 3 * i))
      rw [c3, turnF, if_pos hb]
  | succ n ih =>
    refine ⟨?_, ?_⟩
    · show coldA (coldN g (h + 1) (hourF nc nt g f (7 + 3 * i)) n) (g ((h + 1 + n) / 24 % 7)) = coldA (coldN g h (f (7 + 3 * i)) (n + 1)) (g ((h + (n + 1)) / 24 % 7))
      rw [ih.1, show h + 1 + n = h + (n + 1) by omega]
    · show firmA (firmN g (h + 1) (hourF nc nt g f (7 + 3 * i)) (hourF nc nt g f (9 + 3 * i)) n) (coldN g (h + 1) (hourF nc nt g f (7 + 3 * i)) n) = firmA (firmN g h (f (7 + 3 * i)) (f (9 + 3 * i)) (n + 1)) (coldN g h (f (7 + 3 * i)) (n + 1))
      rw [ih.1, ih.2]
theorem fd50_at {fm : Nat → Int32} : ∀ n k, k + n < 2 ^ 31 → (fd50 fm n k = -1 ∧ ∀ i, k ≤ i → i < k + n → ¬ 50 ≤ fm i) ∨ ∃ i, k ≤ i ∧ i < k + n ∧ fd50 fm n k = nI i ∧ 50 ≤ fm i ∧ ∀ j, k ≤ j → j < i → ¬ 50 ≤ fm j := by
  intro n
  induction n with
  | zero => exact fun k _ => Or.inl ⟨rfl, fun i h1 h2 => by omega⟩
  | succ n ih =>
    intro k hk
    by_cases z : 50 ≤ fm k
    · exact Or.inr ⟨k, Nat.le_refl _, by omega, if_pos z, z, fun j h1 h2 => by omega⟩
    · have e : fd50 fm (n + 1) k = fd50 fm n (k + 1) := if_neg z
      rw [e]
      rcases ih (k + 1) (by omega) with ⟨h1, h2⟩ | ⟨i, h1, h2, h3, h4, h5⟩
      · refine Or.inl ⟨h1, fun i g1 g2 => ?_⟩
        by_cases q : i = k
        · subst q; exact z
        · exact h2 i (by omega) (by omega)
      · refine Or.inr ⟨i, by omega, by omega, h3, h4, fun j g1 g2 => ?_⟩
        by_cases q : j = k
        · subst q; exact z
        · exact h5 j (by omega) g2
theorem fd50_u {fm : Nat → Int32} {n k i : Nat} (hn : k + n < 2 ^ 31) (h1 : k ≤ i) (h2 : i < k + n) (hi : 50 ≤ fm i) (hj : ∀ j, k ≤ j → j < i → ¬ 50 ≤ fm j) : fd50 fm n k = nI i := by
  rcases fd50_at n k hn with ⟨-, g⟩ | ⟨i', g1, g2, g3, g4, g5⟩
  · exact absurd hi (g i h1 h2)
  · rcases Nat.lt_trichotomy i i' with q | q | q
    · exact absurd hi (g5 i h1 q)
    · rw [g3, q]
    · exact absurd g4 (hj i' g1 q)
theorem done_1 (G : GS2 nc nt f g h) (hh : h < 2 ^ 29) {i : Nat} (hi : i < nc) (hp : ¬ doneC f g h i ≤ 0) : doneC (hourF nc nt g f) g (h + 1) i = doneC f g h i - 1 := by
  obtain ⟨-, c2, -⟩ := hour_ch (f := f) (g := g) (nt := nt) G.1.1 hi
  unfold doneC at hp ⊢
  by_cases z : f (8 + 3 * i) = 0
  · rw [if_pos z] at hp
    exact absurd (by decide) hp
  · rw [if_neg z] at hp ⊢
    rw [if_neg (by rw [c2]; exact z)]
    rcases fd50_at (fm := firmN g h (f (7 + 3 * i)) (f (9 + 3 * i))) 101 0 (by decide) with ⟨g1, -⟩ | ⟨k, -, g2, g3, g4, g5⟩
    · rw [g1] at hp
      exact absurd (by decide) hp
    · rw [g3] at hp ⊢
      have hk : 0 < k := Nat.pos_of_ne_zero (fun q => hp (by rw [q]; decide))
      obtain ⟨j, rfl⟩ : ∃ j, k = j + 1 := ⟨k - 1, by omega⟩
      rw [nI_pred]
      refine fd50_u (by decide) (by omega) (by omega) ?_ (fun w _ hw => ?_)
      · rw [(ch_sh G hh hi z j).2]
        exact g4
      · rw [(ch_sh G hh hi z w).2]
        exact g5 (w + 1) (by omega) (by omega)
theorem done_0 (G : GS2 nc nt f g h) (hh : h < 2 ^ 29) {i : Nat} (hi : i < nc) (hp : doneC f g h i = 0) : doneC (hourF nc nt g f) g (h + 1) i = 0 := by
  obtain ⟨-, c2, -⟩ := hour_ch (f := f) (g := g) (nt := nt) G.1.1 hi
  have b := G.1.2.2.1.2.1 i (by have := G.1.1; omega)
  obtain ⟨c, hc, ec⟩ := of_bd (n := 30) (by decide) b.1
  obtain ⟨d, hd, ed⟩ := of_bd (n := 100) (by decide) b.2.2
  unfold doneC at hp ⊢
  by_cases z : f (8 + 3 * i) = 0
  · rw [if_pos z] at hp
    exact absurd hp (by decide)
  · rw [if_neg z] at hp
    rw [if_neg (by rw [c2]; exact z)]
    rcases fd50_at (fm := firmN g h (f (7 + 3 * i)) (f (9 + 3 * i))) 101 0 (by decide) with ⟨g1, -⟩ | ⟨k, -, g2, g3, g4, g5⟩
    · rw [g1] at hp
      exact absurd hp (by decide)
    · rw [g3] at hp
      have e0 : (0 : Int32) = nI 0 := rfl
      rw [e0, nI_eq (by omega) (by decide)] at hp
      subst hp
      refine fd50_u (i := 0) (by decide) (by omega) (by omega) ?_ (fun w _ hw => by omega)
      rw [(ch_sh G hh hi z 0).2]
      have e50 : (50 : Int32) = nI 50 := rfl
      have h50 : 50 ≤ f (9 + 3 * i) := g4
      rw [ed, e50, nI_leI (by decide) (by omega)] at h50
      show 50 ≤ firmA (f (9 + 3 * i)) (f (7 + 3 * i))
      rw [ed, ec, firmA_n (by omega) (by omega), e50]
      exact nI_le (by omega) (by omega)
end HF
