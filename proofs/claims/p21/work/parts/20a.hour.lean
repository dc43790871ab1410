/-! an hour, told in what the law asks of it -/
theorem fo_forg {f : Nat → Int32} {k : Nat} (hk : k < 19) : ∀ n, fo forg1 n f k = f k := by
  intro n
  induction n with
  | zero => rfl
  | succ n ih => exact (s3_o (k := 19 + 3 * n) (Or.inl (by omega))).trans ih
theorem fo_stand {f : Nat → Int32} {hot : Int32} {k : Nat} (hk : k < 19) : ∀ n, fo (stand1 hot) n f k = f k := by
  intro n
  induction n with
  | zero => rfl
  | succ n ih => exact (s3_o (k := 19 + 3 * n) (Or.inl (by omega))).trans ih
theorem sell_o {f : Nat → Int32} {nt k : Nat} (h7 : 7 ≤ k) (hk : k < 19) : sell1 nt f k = f k := by
  unfold sell1
  split
  · exact up_o (by omega)
  · unfold sellT
    rw [up_o (by omega), s3_o (Or.inl (by omega)), up_o (by omega)]
theorem serve_o {f : Nat → Int32} {nt k : Nat} {hot : Int32} (h7 : 7 ≤ k) (hk : k < 19) : serveF nt hot f k = f k := by
  unfold serveF
  split
  · generalize (hot / 4).toNatClampNeg = n
    induction n with
    | zero => rfl
    | succ n ih => exact (sell_o h7 hk).trans ih
  · rfl
theorem fo_turn {f : Nat → Int32} {hot : Int32} : ∀ n i, (n ≤ i → fo (turn1 hot) n f (7 + 3 * i) = f (7 + 3 * i) ∧ fo (turn1 hot) n f (8 + 3 * i) = f (8 + 3 * i) ∧ fo (turn1 hot) n f (9 + 3 * i) = f (9 + 3 * i)) ∧
    (i < n → fo (turn1 hot) n f (7 + 3 * i) = coldA (f (7 + 3 * i)) hot ∧ fo (turn1 hot) n f (8 + 3 * i) = f (8 + 3 * i) ∧ fo (turn1 hot) n f (9 + 3 * i) = turnF (f (7 + 3 * i)) (f (8 + 3 * i)) (f (9 + 3 * i))) := by
  intro n
  induction n with
  | zero => exact fun i => ⟨fun _ => ⟨rfl, rfl, rfl⟩, fun h => absurd h (Nat.not_lt_zero _)⟩
  | succ n ih =>
    intro i
    have e : fo (turn1 hot) (n + 1) f = turn1 hot n (fo (turn1 hot) n f) := rfl
    rw [e]
    by_cases hi : i = n
    · subst hi
      refine ⟨fun h => absurd h (by omega), fun _ => ?_⟩
      obtain ⟨h1, h2, h3⟩ := (ih i).1 (Nat.le_refl _)
      generalize fo (turn1 hot) i f = F at h1 h2 h3
      unfold turn1
      rw [h1, h2, h3, show 8 + 3 * i = 7 + 3 * i + 1 by omega, show 9 + 3 * i = 7 + 3 * i + 2 by omega, s3_0, s3_1, s3_2]
      exact ⟨rfl, rfl, rfl⟩
    · have g1 : ∀ k, (k < 7 + 3 * n ∨ 7 + 3 * n + 3 ≤ k) → turn1 hot n (fo (turn1 hot) n f) k = fo (turn1 hot) n f k := fun k hk => s3_o hk
      rw [g1 _ (by omega), g1 _ (by omega), g1 _ (by omega)]
      exact ⟨fun h => (ih i).1 (by omega), fun h => (ih i).2 (by omega)⟩
theorem hour_ch {f g : Nat → Int32} {nc nt i : Nat} (hnc : nc ≤ 4) (hi : i < nc) : hourF nc nt g f (7 + 3 * i) = coldA (f (7 + 3 * i)) (hotOf f g) ∧ hourF nc nt g f (8 + 3 * i) = f (8 + 3 * i) ∧ hourF nc nt g f (9 + 3 * i) = turnF (f (7 + 3 * i)) (f (8 + 3 * i)) (f (9 + 3 * i)) := by
  have e : ∀ k, 7 ≤ k → k < 19 → hourF nc nt g f k = fo (turn1 (hotOf f g)) nc f k := fun k h7 hk => by
    unfold hourF hourT tickF ice1
    rw [fo_forg hk, up_o (by omega), up_o (by omega), serve_o h7 hk, fo_stand hk]
  rw [e _ (by omega) (by omega), e _ (by omega) (by omega), e _ (by omega) (by omega)]
  exact (fo_turn nc i).2 hi

theorem hour_2 {nc nt j : Nat} {f g : Nat → Int32} (h : j < 4) (h0 : j ≠ 0) (h1 : j ≠ 1) : hourF nc nt g f j = f j := by
  unfold hourF
  rw [forg_0 (by omega), tickF, up_o h0, hourT_0 h h1]
theorem hour_0 {nc nt : Nat} {f g : Nat → Int32} : hourF nc nt g f 0 = f 0 + 1 := by
  unfold hourF
  rw [forg_0 (by omega), tickF, up_s, hourT_0 (by omega) (by omega)]
theorem hour_1 {nc nt : Nat} {f g : Nat → Int32} : hourF nc nt g f 1 = iceA (f 1) (f 0) (hotOf f g) := by
  unfold hourF
  rw [forg_0 (by omega), tickF, up_o (by omega)]
  unfold hourT ice1
  rw [up_s, serve_0 (by omega), serve_0 (by omega), stand_0 (by omega), stand_0 (by omega), turn_0 (by omega), turn_0 (by omega)]
/-! who comes -/
def Sv (nt : Nat) (F R : Nat → Int32) (j : Nat) : Prop := ∃ s a p : Nat, s + a = j ∧ sumD R nt = sumD F nt + nI s ∧ R 6 = F 6 + nI a ∧ R 4 = F 4 - nI s ∧ R 5 = F 5 + nI p ∧ 2 * s ≤ p ∧ p ≤ 3 * s ∧ (∀ t, t < nt → ∃ y, y ≤ j ∧ R (19 + 3 * t) = F (19 + 3 * t) - nI y ∧ R (21 + 3 * t) = F (21 + 3 * t) + nI y ∧ R (20 + 3 * t) = F (20 + 3 * t)) ∧ (a = 0 ∨ R 4 = 0 ∨ ∀ t, t < nt → R (19 + 3 * t) ≤ 0)
theorem sumD_cg {f f' : Nat → Int32} : ∀ n, (∀ t, t < n → f (21 + 3 * t) = f' (21 + 3 * t)) → sumD f n = sumD f' n := by
  intro n
  induction n with
  | zero => exact fun _ => rfl
  | succ n ih =>
    intro h
    show sumD f n + f (21 + 3 * n) = sumD f' n + f' (21 + 3 * n)
    rw [ih (fun t ht => h t (by omega)), h n (by omega)]
theorem sumS_cg {f f' : Nat → Int32} : ∀ n, (∀ t, t < n → f (19 + 3 * t) = f' (19 + 3 * t)) → sumS f n = sumS f' n := by
  intro n
  induction n with
  | zero => exact fun _ => rfl
  | succ n ih =>
    intro h
    show sumS f n + f (19 + 3 * n) = sumS f' n + f' (19 + 3 * n)
    rw [ih (fun t ht => h t (by omega)), h n (by omega)]
theorem sumD_1 {f f' : Nat → Int32} {k : Nat} (h1 : f' (21 + 3 * k) = f (21 + 3 * k) + 1) (h2 : ∀ t, t ≠ k → f' (21 + 3 * t) = f (21 + 3 * t)) : ∀ n, k < n → sumD f' n = sumD f n + 1 := by
  intro n
  induction n with
  | zero => exact fun h => absurd h (Nat.not_lt_zero _)
  | succ n ih =>
    intro h
    show sumD f' n + f' (21 + 3 * n) = sumD f n + f (21 + 3 * n) + 1
    by_cases e : k = n
    · subst e
      rw [sumD_cg (f := f') (f' := f) k (fun t ht => h2 t (by omega)), h1]
      grind
    · rw [ih (by omega), h2 n (fun q => e q.symm)]
      grind
theorem sv_0 {nt : Nat} {F : Nat → Int32} : Sv nt F F 0 := by
  have e : nI 0 = 0 := rfl
  refine ⟨0, 0, 0, rfl, ?_, ?_, ?_, ?_, by omega, by omega, fun t _ => ⟨0, by omega, ?_, ?_, rfl⟩, Or.inl rfl⟩ <;> rw [e] <;> grind
theorem sv_s {nt j : Nat} {F R : Nat → Int32} (h6 : nt ≤ 6) (H : Sv nt F R j) : Sv nt F (sell1 nt R) (j + 1) := by
  obtain ⟨s, a, p, e0, e1, e2, e3, e4, e5, e6, e7, e8⟩ := H
  unfold sell1
  split
  · next hn =>
    refine ⟨s, a + 1, p, by omega, ?_, ?_, ?_, ?_, e5, e6, fun t ht => ?_, Or.inr ?_⟩
    · rw [sumD_cg (f' := R) nt (fun t _ => up_o (by omega)), e1]
    · rw [up_s, e2, nI_succ]
      grind
    · rw [up_o (by omega), e3]
    · rw [up_o (by omega), e4]
    · obtain ⟨y, h1, h2, h3, h4⟩ := e7 t ht
      exact ⟨y, by omega, by rw [up_o (by omega), h2], by rw [up_o (by omega), h3], by rw [up_o (by omega), h4]⟩
    · rcases hn with q | q
      · refine Or.inr (fun t ht => ?_)
        rw [up_o (by omega)]
        rcases sel_nxt R nt (by omega) with ⟨-, g⟩ | ⟨k, -, hk, ek, -⟩
        · exact g t (Nat.zero_le _) ht
        · exact absurd (ek.symm.trans q) (nI_ne_m1 (by omega))
      · exact Or.inl (by rw [up_o (by omega)]; exact q)
  · next hn =>
    rcases nxt_in R nt with q | ⟨k, hk, ek, hs⟩
    · exact absurd (Or.inl q) hn
    · rw [ek, nI_clamp (by omega)]
      have ha : a = 0 := by
        rcases e8 with q | q | q
        · exact q
        · exact absurd (Or.inr q) hn
        · exact absurd hs (Int32.not_lt.mpr (q k hk))
      have d1 : sellT k R (21 + 3 * k) = R (21 + 3 * k) + 1 := by
        unfold sellT
        rw [up_o (by omega), s19_2]
      have d2 : ∀ t, t ≠ k → sellT k R (21 + 3 * t) = R (21 + 3 * t) := fun t ht => by
        unfold sellT
        rw [up_o (by omega), s3_o (by omega), up_o (by omega)]
      have pay : ∃ v : Nat, 2 ≤ v ∧ v ≤ 3 ∧ payF (R (20 + 3 * k)) = nI v := by
        unfold payF
        split
        · exact ⟨3, by omega, by omega, rfl⟩
        · exact ⟨2, by omega, by omega, rfl⟩
      obtain ⟨v, v1, v2, v3⟩ := pay
      refine ⟨s + 1, a, p + v, by omega, ?_, ?_, ?_, ?_, by omega, by omega, fun t ht => ?_, Or.inl ha⟩
      · rw [sumD_1 d1 d2 nt hk, e1, nI_succ]
        grind
      · unfold sellT
        rw [up_o (by omega), s3_o (by omega), up_o (by omega), e2]
      · unfold sellT
        rw [up_o (by omega), s3_o (by omega), up_s, e3, nI_succ]
        grind
      · unfold sellT
        rw [up_s, e4, v3, ← nI_add]
        grind
      · obtain ⟨y, h1, h2, h3, h4⟩ := e7 t ht
        by_cases e : t = k
        · subst e
          refine ⟨y + 1, by omega, ?_, ?_, ?_⟩
          · unfold sellT
            rw [up_o (by omega), s19_0, h2, nI_succ]
            grind
          · rw [d1, h3, nI_succ]
            grind
          · unfold sellT
            rw [up_o (by omega), s19_1, h4]
        · refine ⟨y, by omega, ?_, ?_, ?_⟩
          · unfold sellT
            rw [up_o (by omega), s3_o (by omega), up_o (by omega), h2]
          · rw [d2 t e, h3]
          · unfold sellT
            rw [up_o (by omega), s3_o (by omega), up_o (by omega), h4]
theorem sv_rep {nt : Nat} {F : Nat → Int32} (h6 : nt ≤ 6) : ∀ n, Sv nt F (rep (sell1 nt) n F) n := by
  intro n
  induction n with
  | zero => exact sv_0
  | succ n ih => exact sv_s h6 ih
/-- the tubs' rows behind the heat, told by what they were -/
theorem fo_stand2 {f : Nat → Int32} {hot : Int32} : ∀ n t, (n ≤ t → fo (stand1 hot) n f (19 + 3 * t) = f (19 + 3 * t) ∧ fo (stand1 hot) n f (20 + 3 * t) = f (20 + 3 * t) ∧ fo (stand1 hot) n f (21 + 3 * t) = f (21 + 3 * t)) ∧
    (t < n → fo (stand1 hot) n f (19 + 3 * t) = standA (f (19 + 3 * t)) (f (20 + 3 * t)) hot (f 1) ∧ fo (stand1 hot) n f (20 + 3 * t) = standB (f (19 + 3 * t)) (f (20 + 3 * t)) hot (f 1) ∧ fo (stand1 hot) n f (21 + 3 * t) = f (21 + 3 * t)) := by
  intro n
  induction n with
  | zero => exact fun t => ⟨fun _ => ⟨rfl, rfl, rfl⟩, fun h => absurd h (Nat.not_lt_zero _)⟩
  | succ n ih =>
    intro t
    have e : fo (stand1 hot) (n + 1) f = stand1 hot n (fo (stand1 hot) n f) := rfl
    rw [e]
    by_cases ht : t = n
    · subst ht
      refine ⟨fun h => absurd h (by omega), fun _ => ?_⟩
      obtain ⟨h1, h2, h3⟩ := (ih t).1 (Nat.le_refl _)
      have h4 : fo (stand1 hot) t f 1 = f 1 := stand_0 (by omega) f t
      unfold stand1
      rw [s19_0, s19_1, s19_2]
      unfold stand1 at h1 h2 h3 h4
      rw [h1, h2, h3, h4]
      exact ⟨rfl, rfl, rfl⟩
    · have g1 : ∀ k, (k < 19 + 3 * n ∨ 19 + 3 * n + 3 ≤ k) → stand1 hot n (fo (stand1 hot) n f) k = fo (stand1 hot) n f k := fun k hk => s3_o hk
      rw [g1 _ (by omega), g1 _ (by omega), g1 _ (by omega)]
      exact ⟨fun h => (ih t).1 (by omega), fun h => (ih t).2 (by omega)⟩
theorem fo_forg2 {f : Nat → Int32} : ∀ n t, (n ≤ t → fo forg1 n f (20 + 3 * t) = f (20 + 3 * t)) ∧ (t < n → fo forg1 n f (20 + 3 * t) = forgB (f (19 + 3 * t)) (f (20 + 3 * t))) ∧ fo forg1 n f (19 + 3 * t) = f (19 + 3 * t) ∧ fo forg1 n f (21 + 3 * t) = f (21 + 3 * t) := by
  intro n
  induction n with
  | zero => exact fun t => ⟨fun _ => rfl, fun h => absurd h (Nat.not_lt_zero _), rfl, rfl⟩
  | succ n ih =>
    intro t
    obtain ⟨i1, i2, i3, i4⟩ := ih t
    have e : fo forg1 (n + 1) f = forg1 n (fo forg1 n f) := rfl
    rw [e]
    by_cases ht : t = n
    · subst ht
      unfold forg1
      rw [s19_0, s19_1, s19_2]
      unfold forg1 at i1 i2 i3 i4
      refine ⟨fun h => absurd h (by omega), fun _ => ?_, i3, i4⟩
      rw [i3, i1 (Nat.le_refl _)]
    · have g1 : ∀ k, (k < 19 + 3 * n ∨ 19 + 3 * n + 3 ≤ k) → forg1 n (fo forg1 n f) k = fo forg1 n f k := fun k hk => s3_o hk
      rw [g1 _ (by omega), g1 _ (by omega), g1 _ (by omega)]
      exact ⟨fun h => i1 (by omega), fun h => i2 (by omega), i3, i4⟩
theorem turn_k {f : Nat → Int32} {hot : Int32} {k n : Nat} (hn : n ≤ 4) (hk : k < 7 ∨ 19 ≤ k) : fo (turn1 hot) n f k = f k := by
  induction n with
  | zero => rfl
  | succ n ih => exact (turn_o hk (by omega)).trans (ih (by omega))
/-- all of an hour that is about tubs and people -/
theorem hour_sv {nc nt h : Nat} {f g : Nat → Int32} (G : GS2 nc nt f g h) : ∃ (q n : Nat) (F : Nat → Int32), q ≤ 40 ∧ hotOf f g = nI q ∧ n ≤ 10 ∧ Inv F ∧ F 4 = f 4 ∧ F 5 = f 5 ∧ F 6 = f 6 ∧
    (∀ t, t < nt → F (19 + 3 * t) = standA (f (19 + 3 * t)) (f (20 + 3 * t)) (nI q) (f 1) ∧ F (20 + 3 * t) = standB (f (19 + 3 * t)) (f (20 + 3 * t)) (nI q) (f 1) ∧ F (21 + 3 * t) = f (21 + 3 * t)) ∧
    (10 ≤ f 0 - f 0 / 24 * 24 ∧ f 0 - f 0 / 24 * 24 ≤ 18 → n = q / 4) ∧ (¬ (10 ≤ f 0 - f 0 / 24 * 24 ∧ f 0 - f 0 / 24 * 24 ≤ 18) → n = 0) ∧
    hourF nc nt g f 4 = rep (sell1 nt) n F 4 ∧ hourF nc nt g f 5 = rep (sell1 nt) n F 5 ∧ hourF nc nt g f 6 = rep (sell1 nt) n F 6 ∧
    (∀ t, t < nt → hourF nc nt g f (19 + 3 * t) = rep (sell1 nt) n F (19 + 3 * t) ∧ hourF nc nt g f (20 + 3 * t) = forgB (rep (sell1 nt) n F (19 + 3 * t)) (rep (sell1 nt) n F (20 + 3 * t)) ∧ hourF nc nt g f (21 + 3 * t) = rep (sell1 nt) n F (21 + 3 * t)) := by
  obtain ⟨⟨g1, g2, hI, hg, h0⟩, -⟩ := G
  obtain ⟨q, hq, eq⟩ := of_bd (n := 40) (by decide) (hg (hrN f / 24 % 7) (Nat.mod_lt _ (by decide)))
  have hhot : hotOf f g = nI q := eq
  have i1 : Inv (fo (turn1 (nI q)) nc f) := Inv.fo_ (N := 4) (fun f i hi h => h.turn (bd_n (n := 40) hq (by decide)) hi) hI nc g1
  have i2 : Inv (fo (stand1 (nI q)) nt (fo (turn1 (nI q)) nc f)) := Inv.fo_ (N := 6) (fun f i hi h => h.stand (bd_n (n := 40) hq (by decide)) hi) i1 nt g2
  have k0 : ∀ k, k < 7 → fo (stand1 (nI q)) nt (fo (turn1 (nI q)) nc f) k = f k := fun k hk => by rw [stand_0 (by omega), turn_k g1 (by omega)]
  have sv : ∃ n, n ≤ 10 ∧ serveF nt (nI q) (fo (stand1 (nI q)) nt (fo (turn1 (nI q)) nc f)) = rep (sell1 nt) n (fo (stand1 (nI q)) nt (fo (turn1 (nI q)) nc f)) ∧ (10 ≤ f 0 - f 0 / 24 * 24 ∧ f 0 - f 0 / 24 * 24 ≤ 18 → n = q / 4) ∧ (¬ (10 ≤ f 0 - f 0 / 24 * 24 ∧ f 0 - f 0 / 24 * 24 ≤ 18) → n = 0) := by
    by_cases hc : 10 ≤ f 0 - f 0 / 24 * 24 ∧ f 0 - f 0 / 24 * 24 ≤ 18
    · refine ⟨q / 4, by omega, (sv_in hq ?_).symm, fun _ => rfl, fun h => absurd hc h⟩
      rw [k0 0 (by omega)]
      exact hc
    · refine ⟨0, by omega, ?_, fun h => absurd h hc, fun _ => rfl⟩
      rw [serveF, if_neg (by rw [k0 0 (by omega)]; exact hc)]
      rfl
  obtain ⟨n, n1, n2, n3, n4⟩ := sv
  have e : ∀ k, k ≠ 0 → k ≠ 1 → tickF (hourT nc nt (nI q) f) k = rep (sell1 nt) n (fo (stand1 (nI q)) nt (fo (turn1 (nI q)) nc f)) k := fun k h1 h2 => by
    unfold tickF hourT ice1
    rw [up_o h1, up_o h2, n2]
  refine ⟨q, n, fo (stand1 (nI q)) nt (fo (turn1 (nI q)) nc f), hq, hhot, n1, i2, k0 4 (by omega), k0 5 (by omega), k0 6 (by omega), fun t ht => ?_, n3, n4, ?_, ?_, ?_, fun t ht => ?_⟩
  · obtain ⟨a1, a2, a3⟩ := (fo_stand2 (f := fo (turn1 (nI q)) nc f) (hot := nI q) nt t).2 ht
    rw [a1, a2, a3, turn_k g1 (by omega), turn_k g1 (by omega), turn_k g1 (by omega), turn_k g1 (by omega)]
    exact ⟨rfl, rfl, rfl⟩
  · unfold hourF
    rw [forg_0 (by omega), hhot, e 4 (by omega) (by omega)]
  · unfold hourF
    rw [forg_0 (by omega), hhot, e 5 (by omega) (by omega)]
  · unfold hourF
    rw [forg_0 (by omega), hhot, e 6 (by omega) (by omega)]
  · obtain ⟨-, b2, b3, b4⟩ := fo_forg2 (f := tickF (hourT nc nt (hotOf f g) f)) nt t
    unfold hourF
    rw [b2 ht, b3, b4, hhot, e _ (by omega) (by omega), e _ (by omega) (by omega), e _ (by omega) (by omega)]
    exact ⟨rfl, rfl, rfl⟩
